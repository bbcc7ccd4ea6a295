def pR_good (zr : RS2) (x : Int32) (y : Int32) (wh : Int32) (r : Int32) (u : RS2) : Prop :=
  (((0 ≤ x ∧ x ≤ 7) ∧ (0 ≤ y ∧ y ≤ 5)) ∧ (¬ wh = 0) ∧ (¬ wh = 1) ∧ r = ((-2)) ∧ u = zr) ∨
  (((0 ≤ x ∧ x ≤ 7) ∧ (0 ≤ y ∧ y ≤ 5)) ∧ (¬ wh = 0) ∧ (wh = 1) ∧ r = ((rs_I zr 3) ((8 * y) + x).toNatClampNeg) ∧ u = zr) ∨
  (((0 ≤ x ∧ x ≤ 7) ∧ (0 ≤ y ∧ y ≤ 5)) ∧ (wh = 0) ∧ r = ((rs_I zr 2) ((8 * y) + x).toNatClampNeg) ∧ u = zr) ∨
  ((¬ ((0 ≤ x ∧ x ≤ 7) ∧ (0 ≤ y ∧ y ≤ 5))) ∧ r = ((-1)) ∧ u = zr)
set_option maxHeartbeats 4000000 in
set_option maxRecDepth 100000 in
theorem M_good (l : Launch) (dC : Nat → ClassId) (dI : Nat → Nat → Nat) (cI cJ cZ : ClassId) (sz : Nat) (qm : Nat) (ad : Nat → Nat) (zr : RS2) (x : Int32) (y : Int32) (wh : Int32) (hI : invR zr) : Met l yX11_good wsX11_good ({ frames := 3, cells := 0, slots := 0, locals := 90 }) (pw (dC, dI) [(cI, .int), (cJ, .long), (cZ, .boolean)] (rW qm cI cJ cZ ad zr) sz [.ref qm, .int x, .int y, .int wh]) (va_Qi (fun r (u : RS2) => invR u ∧ pR_good zr x y wh r u) (fun u t => bw (dC, dI) [(cI, .int), (cJ, .long), (cZ, .boolean)] (va_A (rW qm cI cJ cZ ad zr) sz) (rW qm cI cJ cZ ad u) t) (va_A (rW qm cI cJ cZ ad zr) sz)) 0 0 (va_A (rW qm cI cJ cZ ad zr) sz) := by
  refine pw_met (cc := cX11_good) (maxL := 4) (ret := (some .int)) (by decide) rfl (Nat.le_of_ble_eq_true rfl) ?_
  intro p e s m below meth c0 hx hb hr hml hown hlocks hnm hts hP0 hK hD0 hN hsz hA hS ls hl
  subst hsz
  have hP : va_P (dC, dI) vwCl [rcO qm ad zr, rcI cI ad zr 2 48, rcI cI ad zr 3 48, rcI cI ad zr 4 48, rcI cI ad zr 5 48, rcI cI ad zr 7 4, rcI cI ad zr 8 4, rcI cI ad zr 9 192, rcI cI ad zr 10 48, rcI cI ad zr 12 12, rcI cI ad zr 13 12, rcI cI ad zr 14 12, rcI cI ad zr 15 12, rcI cI ad zr 16 12, rcI cI ad zr 18 8, rcJ cJ ad zr 19 8, rcI cI ad zr 25 40, rcI cI ad zr 26 40, rcI cI ad zr 27 40, rcI cZ ad zr 28 40, rcJ cJ ad zr 29 40, rcJ cJ ad zr 30 40, rcJ cJ ad zr 31 40, rcJ cJ ad zr 32 40, rcJ cJ ad zr 33 40, rcI cI ad zr 35 80, rcI cI ad zr 36 80, rcI cI ad zr 37 80] s.heap := hP0
  have hD : va_D (va_A (rW qm cI cJ cZ ad zr) s.heap.size) [rcO qm ad zr, rcI cI ad zr 2 48, rcI cI ad zr 3 48, rcI cI ad zr 4 48, rcI cI ad zr 5 48, rcI cI ad zr 7 4, rcI cI ad zr 8 4, rcI cI ad zr 9 192, rcI cI ad zr 10 48, rcI cI ad zr 12 12, rcI cI ad zr 13 12, rcI cI ad zr 14 12, rcI cI ad zr 15 12, rcI cI ad zr 16 12, rcI cI ad zr 18 8, rcJ cJ ad zr 19 8, rcI cI ad zr 25 40, rcI cI ad zr 26 40, rcI cI ad zr 27 40, rcI cZ ad zr 28 40, rcJ cJ ad zr 29 40, rcJ cJ ad zr 30 40, rcJ cJ ad zr 31 40, rcJ cJ ad zr 32 40, rcJ cJ ad zr 33 40, rcI cI ad zr 35 80, rcI cI ad zr 36 80, rcI cI ad zr 37 80] := hD0
  obtain ⟨⟨hn0, hn1, hn2, hn3⟩, hfar, hlh, hss, hsold, htk, hpk⟩ := id hI
  have hl : lv_has ls 4 [(0, .ref qm), (1, .int x), (2, .int y), (3, .int wh)] := hl
  have hiX11 : ∀ w ∈ wsX110, w ∈ wsX11_good := fun _ h => List.mem_cons_of_mem _ (List.mem_append_right _ (h))
  generalize hQ : MQ _ _ _ _ _ _ _ = Q
  refine lv_iload_n hx hb dX11_good_0 rfl (lv_at hl 1 rfl) ?_
  refine lv_iload_n hx hb dX11_good_1 rfl (lv_at hl 2 rfl) ?_
  refine vp_callSi (va_Run.run (va_runS (As := [.int x, .int y]) (rest := []) ⟨hx, hb, hml, hown, hts⟩ (c_X11_isSquare l x y ) (va_cwS 2 hts gX11_good_X11_isSquare rfl rfl rfl (by decide +kernel) ⟨Nat.le_of_ble_eq_true rfl, Nat.le_of_ble_eq_true rfl⟩) (p0_preS hN) rfl rfl hl.1 rfl (lv_room (Nat.le_of_ble_eq_true rfl)) dX11_good_2 ⟨Nat.le_of_ble_eq_true rfl, Nat.le_of_ble_eq_true rfl⟩)) (fun r1 hr1 => ?_)
  have hr1 : r1 = if (0 ≤ x ∧ x ≤ 7) ∧ (0 ≤ y ∧ y ≤ 5) then 1 else 0 := hr1
  refine lv_if_ne (tgt := 10) hx hb dX11_good_5 (by decide) (fun c2 => ?_) (fun c2 => ?_)
  · skip
    have c2 := (fa_bool_prop hr1).2.mp c2
    refine lv_iload_n hx hb dX11_good_10 rfl (lv_at hl 3 rfl) ?_
    refine lv_if_ne (tgt := 28) hx hb dX11_good_11 (by decide) (fun c3 => ?_) (fun c3 => ?_)
    · skip
      refine lv_iload_n hx hb dX11_good_28 rfl (lv_at hl 3 rfl) ?_
      refine lv_iconst (v := 1) hx hb dX11_good_29 (by decide) ?_
      refine lv_icmp_ne (tgt := 47) hx hb dX11_good_30 (by decide) (fun c4 => ?_) (fun c4 => ?_)
      · skip
        refine lv_bipush (v := (-2)) hx hb dX11_good_47 (by decide) ?_
        subst hQ
        exact W.iret (v := (-2)) hx hb hr (fun t ht hW => ⟨⟨(-2), zr, rfl, ⟨hI, (Or.inl ⟨c2, c3, c4, rfl, rfl⟩)⟩, (by rw [ht]; exact hP0), va_K.moved hW.alike hK, hD0⟩, (by rw [ht]; exact Nat.le_refl _), fun q _ _ => by rw [ht]⟩) (fun q h => absurd h List.not_mem_nil) dX11_good_49
      · skip
        refine lv_aload_n hx hb dX11_good_33 rfl (lv_at hl 0 rfl) ?_
        refine va_get (D := (dC, dI)) (ci := 11) (v := .ref (ad 3)) (C := RX11) (T := TX11) (N := 39) hx hb hts hiX11 hown hK hP 0 rfl rfl 3 (by decide) (hts (.fieldLink RX11 13 "TributePitchesModel" "high" "[I") (List.mem_of_getElem? (i := 2) rfl)) (fun _ h9 => h9) rfl dX11_good_34 ?_
        refine lv_bipush (v := 8) hx hb dX11_good_37 (by decide) ?_
        refine lv_iload_n hx hb dX11_good_39 rfl (lv_at hl 2 rfl) ?_
        refine lv_imul hx hb dX11_good_40 ?_
        refine lv_iload_n hx hb dX11_good_41 rfl (lv_at hl 1 rfl) ?_
        refine lv_iadd hx hb dX11_good_42 ?_
        refine va_iald hx hb hK hP 2 0 rfl rfl (sq_in c2) dX11_good_43 ?_
        refine lv_goto (tgt := 49) hx hb dX11_good_44 (by decide) ?_
        subst hQ
        exact W.iret (v := (rs_I zr 3) ((8 * y) + x).toNatClampNeg) hx hb hr (fun t ht hW => ⟨⟨(rs_I zr 3) ((8 * y) + x).toNatClampNeg, zr, rfl, ⟨hI, (Or.inr (Or.inl ⟨c2, c3, c4, rfl, rfl⟩))⟩, (by rw [ht]; exact hP0), va_K.moved hW.alike hK, hD0⟩, (by rw [ht]; exact Nat.le_refl _), fun q _ _ => by rw [ht]⟩) (fun q h => absurd h List.not_mem_nil) dX11_good_49
    · skip
      refine lv_aload_n hx hb dX11_good_14 rfl (lv_at hl 0 rfl) ?_
      refine va_get (D := (dC, dI)) (ci := 11) (v := .ref (ad 2)) (C := RX11) (T := TX11) (N := 39) hx hb hts hiX11 hown hK hP 0 rfl rfl 2 (by decide) (hts (.fieldLink RX11 7 "TributePitchesModel" "low" "[I") (List.mem_of_getElem? (i := 1) rfl)) (fun _ h9 => h9) rfl dX11_good_15 ?_
      refine lv_bipush (v := 8) hx hb dX11_good_18 (by decide) ?_
      refine lv_iload_n hx hb dX11_good_20 rfl (lv_at hl 2 rfl) ?_
      refine lv_imul hx hb dX11_good_21 ?_
      refine lv_iload_n hx hb dX11_good_22 rfl (lv_at hl 1 rfl) ?_
      refine lv_iadd hx hb dX11_good_23 ?_
      refine va_iald hx hb hK hP 1 0 rfl rfl (sq_in c2) dX11_good_24 ?_
      refine lv_goto (tgt := 49) hx hb dX11_good_25 (by decide) ?_
      subst hQ
      exact W.iret (v := (rs_I zr 2) ((8 * y) + x).toNatClampNeg) hx hb hr (fun t ht hW => ⟨⟨(rs_I zr 2) ((8 * y) + x).toNatClampNeg, zr, rfl, ⟨hI, (Or.inr (Or.inr (Or.inl ⟨c2, c3, rfl, rfl⟩)))⟩, (by rw [ht]; exact hP0), va_K.moved hW.alike hK, hD0⟩, (by rw [ht]; exact Nat.le_refl _), fun q _ _ => by rw [ht]⟩) (fun q h => absurd h List.not_mem_nil) dX11_good_49
  · skip
    have c2 := (fa_bool_prop hr1).1.mp c2
    refine lv_iconst (v := (-1)) hx hb dX11_good_8 (by decide) ?_
    subst hQ
    exact W.iret (v := (-1)) hx hb hr (fun t ht hW => ⟨⟨(-1), zr, rfl, ⟨hI, (Or.inr (Or.inr (Or.inr ⟨c2, rfl, rfl⟩)))⟩, (by rw [ht]; exact hP0), va_K.moved hW.alike hK, hD0⟩, (by rw [ht]; exact Nat.le_refl _), fun q _ _ => by rw [ht]⟩) (fun q h => absurd h List.not_mem_nil) dX11_good_9
def pR_lose (zr : RS2) (k : Int32) (r : Int32) (u : RS2) : Prop :=
  ((∀ j, j < 4 → k ≠ nI j) ∧ r = ((-1)) ∧ u = zr) ∨
  (∃ js : Nat, k = nI js ∧ (js < 4) ∧ (0 ≤ ((rs_I zr 7) js)) ∧ r = (1) ∧ u = (rs_i zr, rs_n zr, va_up (rs_I zr) 7 (upd (rs_I zr 7) js (-1)), rs_L zr)) ∨
  (∃ js : Nat, k = nI js ∧ (js < 4) ∧ (¬ 0 ≤ ((rs_I zr 7) js)) ∧ r = (0) ∧ u = (rs_i zr, rs_n zr, va_up (rs_I zr) 7 (upd (rs_I zr 7) js (-1)), rs_L zr))
set_option maxHeartbeats 4000000 in
theorem lr_lose_1 (qm : Nat) (cI cJ cZ : ClassId) (ad : Nat → Nat) (zr : RS2) (js : Nat) (hjs : js < 4) (c5 : 0 ≤ ((rs_I zr 7) js)) (hI : invR zr) : invR (rs_i zr, rs_n zr, va_up (rs_I zr) 7 (upd (rs_I zr 7) js (-1)), rs_L zr) ∧ rW qm cI cJ cZ ad (rs_i zr, rs_n zr, va_up (rs_I zr) 7 (upd (rs_I zr 7) js (-1)), rs_L zr) = [rcO qm ad zr, rcI cI ad zr 2 48, rcI cI ad zr 3 48, rcI cI ad zr 4 48, rcI cI ad zr 5 48, (ad 7, .inl (cI, 4, .inl (upd (rs_I zr 7) js (-1)))), rcI cI ad zr 8 4, rcI cI ad zr 9 192, rcI cI ad zr 10 48, rcI cI ad zr 12 12, rcI cI ad zr 13 12, rcI cI ad zr 14 12, rcI cI ad zr 15 12, rcI cI ad zr 16 12, rcI cI ad zr 18 8, rcJ cJ ad zr 19 8, rcI cI ad zr 25 40, rcI cI ad zr 26 40, rcI cI ad zr 27 40, rcI cZ ad zr 28 40, rcJ cJ ad zr 29 40, rcJ cJ ad zr 30 40, rcJ cJ ad zr 31 40, rcJ cJ ad zr 32 40, rcJ cJ ad zr 33 40, rcI cI ad zr 35 80, rcI cI ad zr 36 80, rcI cI ad zr 37 80] := by
  obtain ⟨⟨hn0, hn1, hn2, hn3⟩, hfar, hlh, hss, hsold, htk, hpk⟩ := id hI
  exact ⟨(inv_size (a := fun _ => 0) hI hjs (by decide) (by decide)), by simp [rW, rcO, rcI, rcJ, rs_i, rs_n, rs_I, rs_L, va_up, upd]⟩
set_option maxHeartbeats 4000000 in
theorem lr_lose_2 (qm : Nat) (cI cJ cZ : ClassId) (ad : Nat → Nat) (zr : RS2) (js : Nat) (hjs : js < 4) (c5 : ¬ 0 ≤ ((rs_I zr 7) js)) (hI : invR zr) : invR (rs_i zr, rs_n zr, va_up (rs_I zr) 7 (upd (rs_I zr 7) js (-1)), rs_L zr) ∧ rW qm cI cJ cZ ad (rs_i zr, rs_n zr, va_up (rs_I zr) 7 (upd (rs_I zr 7) js (-1)), rs_L zr) = [rcO qm ad zr, rcI cI ad zr 2 48, rcI cI ad zr 3 48, rcI cI ad zr 4 48, rcI cI ad zr 5 48, (ad 7, .inl (cI, 4, .inl (upd (rs_I zr 7) js (-1)))), rcI cI ad zr 8 4, rcI cI ad zr 9 192, rcI cI ad zr 10 48, rcI cI ad zr 12 12, rcI cI ad zr 13 12, rcI cI ad zr 14 12, rcI cI ad zr 15 12, rcI cI ad zr 16 12, rcI cI ad zr 18 8, rcJ cJ ad zr 19 8, rcI cI ad zr 25 40, rcI cI ad zr 26 40, rcI cI ad zr 27 40, rcI cZ ad zr 28 40, rcJ cJ ad zr 29 40, rcJ cJ ad zr 30 40, rcJ cJ ad zr 31 40, rcJ cJ ad zr 32 40, rcJ cJ ad zr 33 40, rcI cI ad zr 35 80, rcI cI ad zr 36 80, rcI cI ad zr 37 80] := by
  obtain ⟨⟨hn0, hn1, hn2, hn3⟩, hfar, hlh, hss, hsold, htk, hpk⟩ := id hI
  exact ⟨(inv_size (a := fun _ => 0) hI hjs (by decide) (by decide)), by simp [rW, rcO, rcI, rcJ, rs_i, rs_n, rs_I, rs_L, va_up, upd]⟩
set_option maxHeartbeats 4000000 in
set_option maxRecDepth 100000 in
theorem M_lose (l : Launch) (dC : Nat → ClassId) (dI : Nat → Nat → Nat) (cI cJ cZ : ClassId) (sz : Nat) (qm : Nat) (ad : Nat → Nat) (zr : RS2) (k : Int32) (hI : invR zr) : Met l yX11_lose wsX11_lose ({ frames := 3, cells := 0, slots := 0, locals := 90 }) (pw (dC, dI) [(cI, .int), (cJ, .long), (cZ, .boolean)] (rW qm cI cJ cZ ad zr) sz [.ref qm, .int k]) (va_Qi (fun r (u : RS2) => invR u ∧ pR_lose zr k r u) (fun u t => bw (dC, dI) [(cI, .int), (cJ, .long), (cZ, .boolean)] (va_A (rW qm cI cJ cZ ad zr) sz) (rW qm cI cJ cZ ad u) t) (va_A (rW qm cI cJ cZ ad zr) sz)) 0 0 (va_A (rW qm cI cJ cZ ad zr) sz) := by
  refine pw_met (cc := cX11_lose) (maxL := 3) (ret := (some .int)) (by decide) rfl (Nat.le_of_ble_eq_true rfl) ?_
  intro p e s m below meth c0 hx hb hr hml hown hlocks hnm hts hP0 hK hD0 hN hsz hA hS ls hl
  subst hsz
  have hP : va_P (dC, dI) vwCl [rcO qm ad zr, rcI cI ad zr 2 48, rcI cI ad zr 3 48, rcI cI ad zr 4 48, rcI cI ad zr 5 48, rcI cI ad zr 7 4, rcI cI ad zr 8 4, rcI cI ad zr 9 192, rcI cI ad zr 10 48, rcI cI ad zr 12 12, rcI cI ad zr 13 12, rcI cI ad zr 14 12, rcI cI ad zr 15 12, rcI cI ad zr 16 12, rcI cI ad zr 18 8, rcJ cJ ad zr 19 8, rcI cI ad zr 25 40, rcI cI ad zr 26 40, rcI cI ad zr 27 40, rcI cZ ad zr 28 40, rcJ cJ ad zr 29 40, rcJ cJ ad zr 30 40, rcJ cJ ad zr 31 40, rcJ cJ ad zr 32 40, rcJ cJ ad zr 33 40, rcI cI ad zr 35 80, rcI cI ad zr 36 80, rcI cI ad zr 37 80] s.heap := hP0
  have hD : va_D (va_A (rW qm cI cJ cZ ad zr) s.heap.size) [rcO qm ad zr, rcI cI ad zr 2 48, rcI cI ad zr 3 48, rcI cI ad zr 4 48, rcI cI ad zr 5 48, rcI cI ad zr 7 4, rcI cI ad zr 8 4, rcI cI ad zr 9 192, rcI cI ad zr 10 48, rcI cI ad zr 12 12, rcI cI ad zr 13 12, rcI cI ad zr 14 12, rcI cI ad zr 15 12, rcI cI ad zr 16 12, rcI cI ad zr 18 8, rcJ cJ ad zr 19 8, rcI cI ad zr 25 40, rcI cI ad zr 26 40, rcI cI ad zr 27 40, rcI cZ ad zr 28 40, rcJ cJ ad zr 29 40, rcJ cJ ad zr 30 40, rcJ cJ ad zr 31 40, rcJ cJ ad zr 32 40, rcJ cJ ad zr 33 40, rcI cI ad zr 35 80, rcI cI ad zr 36 80, rcI cI ad zr 37 80] := hD0
  obtain ⟨⟨hn0, hn1, hn2, hn3⟩, hfar, hlh, hss, hsold, htk, hpk⟩ := id hI
  have hl : lv_has ls 3 [(0, .ref qm), (1, .int k)] := hl
  have hiX11 : ∀ w ∈ wsX110, w ∈ wsX11_lose := fun _ h => List.mem_cons_of_mem _ (List.mem_append_right _ (h))
  generalize hQ : MQ _ _ _ _ _ _ _ = Q
  refine lv_iload_n hx hb dX11_lose_0 rfl (lv_at hl 1 rfl) ?_
  refine vp_callSi (va_Run.run (va_runS (As := [.int k]) (rest := []) ⟨hx, hb, hml, hown, hts⟩ (c_X11_noSheet l k ) (va_cwS 1 hts gX11_lose_X11_noSheet rfl rfl rfl (by decide +kernel) ⟨Nat.le_of_ble_eq_true rfl, Nat.le_of_ble_eq_true rfl⟩) (p0_preS hN) rfl rfl hl.1 rfl (lv_room (Nat.le_of_ble_eq_true rfl)) dX11_lose_1 ⟨Nat.le_of_ble_eq_true rfl, Nat.le_of_ble_eq_true rfl⟩)) (fun r1 hr1 => ?_)
  have hr1 : r1 = if ¬ (0 ≤ k ∧ k ≤ 3) then 1 else 0 := hr1
  rcases ixd k 4 with hnojs | ⟨js, hjs, rfl⟩
  · have er1 : r1 = 1 := hr1.trans (if_pos (shNo hnojs))
    subst er1
    refine lv_if_eq (tgt := 9) hx hb dX11_lose_4 (by decide) (fun c2 => ?_) (fun c2 => ?_)
    · exact absurd c2 (by decide)
    · skip
      refine lv_iconst (v := (-1)) hx hb dX11_lose_7 (by decide) ?_
      subst hQ
      exact W.iret (v := (-1)) hx hb hr (fun t ht hW => ⟨⟨(-1), zr, rfl, ⟨hI, (Or.inl ⟨hnojs, rfl, rfl⟩)⟩, (by rw [ht]; exact hP0), va_K.moved hW.alike hK, hD0⟩, (by rw [ht]; exact Nat.le_refl _), fun q _ _ => by rw [ht]⟩) (fun q h => absurd h List.not_mem_nil) dX11_lose_8
  · have er1 : r1 = 0 := hr1.trans (if_neg (not_not_intro (shYes hjs)))
    subst er1
    refine lv_if_eq (tgt := 9) hx hb dX11_lose_4 (by decide) (fun c3 => ?_) (fun c3 => ?_)
    · skip
      refine lv_aload_n hx hb dX11_lose_9 rfl (lv_at hl 0 rfl) ?_
      refine va_get (D := (dC, dI)) (ci := 11) (v := .ref (ad 7)) (C := RX11) (T := TX11) (N := 39) hx hb hts hiX11 hown hK hP 0 rfl rfl 7 (by decide) (hts (.fieldLink RX11 22 "TributePitchesModel" "sheetSize" "[I") (List.mem_of_getElem? (i := 1) rfl)) (fun _ h9 => h9) rfl dX11_lose_10 ?_
      refine lv_iload_n hx hb dX11_lose_13 rfl (lv_at hl 1 rfl) ?_
      refine va_iald hx hb hK hP 5 0 rfl rfl (vp_in_nI (by omega) (by omega)) dX11_lose_14 ?_
      refine lv_topi (fun v4 ev4 => ?_)
      have ev4 : v4 = (rs_I zr 7) js := by rw [ev4]; rw [nI_clamp (by omega)]
      subst ev4
      refine lv_if_ge (tgt := 22) hx hb dX11_lose_15 (by decide) (fun c5 => ?_) (fun c5 => ?_)
      · skip
        refine lv_iconst (v := 1) hx hb dX11_lose_22 (by decide) ?_
        refine lv_istore_n (lv' := [(2, .int 1), (0, .ref qm), (1, .int (nI js))]) hx hb dX11_lose_23 rfl hl (by decide) rfl (fun ls hl => ?_)
        refine lv_aload_n hx hb dX11_lose_24 rfl (lv_at hl 1 rfl) ?_
        refine va_get (D := (dC, dI)) (ci := 11) (v := .ref (ad 7)) (C := RX11) (T := TX11) (N := 39) hx hb hts hiX11 hown hK hP 0 rfl rfl 7 (by decide) (hts (.fieldLink RX11 22 "TributePitchesModel" "sheetSize" "[I") (List.mem_of_getElem? (i := 1) rfl)) (fun _ h9 => h9) rfl dX11_lose_25 ?_
        refine lv_iload_n hx hb dX11_lose_28 rfl (lv_at hl 2 rfl) ?_
        refine lv_iconst (v := (-1)) hx hb dX11_lose_29 (by decide) ?_
        refine va_iast hx hb hK hP hD hS 5 0 rfl rfl (vp_in_nI (by omega) (by omega)) dX11_lose_30 (fun H locs hP hD hS => ?_)
        rw [nI_clamp (n := js) (by omega)] at hP hD
        have hP : va_P (dC, dI) vwCl [rcO qm ad zr, rcI cI ad zr 2 48, rcI cI ad zr 3 48, rcI cI ad zr 4 48, rcI cI ad zr 5 48, (ad 7, .inl (cI, 4, .inl (upd (rs_I zr 7) js (-1)))), rcI cI ad zr 8 4, rcI cI ad zr 9 192, rcI cI ad zr 10 48, rcI cI ad zr 12 12, rcI cI ad zr 13 12, rcI cI ad zr 14 12, rcI cI ad zr 15 12, rcI cI ad zr 16 12, rcI cI ad zr 18 8, rcJ cJ ad zr 19 8, rcI cI ad zr 25 40, rcI cI ad zr 26 40, rcI cI ad zr 27 40, rcI cZ ad zr 28 40, rcJ cJ ad zr 29 40, rcJ cJ ad zr 30 40, rcJ cJ ad zr 31 40, rcJ cJ ad zr 32 40, rcJ cJ ad zr 33 40, rcI cI ad zr 35 80, rcI cI ad zr 36 80, rcI cI ad zr 37 80] H := hP
        have hD : va_D _ [rcO qm ad zr, rcI cI ad zr 2 48, rcI cI ad zr 3 48, rcI cI ad zr 4 48, rcI cI ad zr 5 48, (ad 7, .inl (cI, 4, .inl (upd (rs_I zr 7) js (-1)))), rcI cI ad zr 8 4, rcI cI ad zr 9 192, rcI cI ad zr 10 48, rcI cI ad zr 12 12, rcI cI ad zr 13 12, rcI cI ad zr 14 12, rcI cI ad zr 15 12, rcI cI ad zr 16 12, rcI cI ad zr 18 8, rcJ cJ ad zr 19 8, rcI cI ad zr 25 40, rcI cI ad zr 26 40, rcI cI ad zr 27 40, rcI cZ ad zr 28 40, rcJ cJ ad zr 29 40, rcJ cJ ad zr 30 40, rcJ cJ ad zr 31 40, rcJ cJ ad zr 32 40, rcJ cJ ad zr 33 40, rcI cI ad zr 35 80, rcI cI ad zr 36 80, rcI cI ad zr 37 80] := hD
        refine lv_iload_n hx hb dX11_lose_31 rfl (lv_at hl 0 rfl) ?_
        subst hQ
        have hlf := lr_lose_1 qm cI cJ cZ ad zr js hjs c5 hI
        have hP9 : va_P (dC, dI) vwCl (rW qm cI cJ cZ ad (rs_i zr, rs_n zr, va_up (rs_I zr) 7 (upd (rs_I zr 7) js (-1)), rs_L zr)) H := by rw [hlf.2]; exact hP.sub [0, 1, 2, 3, 4, 5, 6, 7, 8, 9, 10, 11, 12, 13, 14, 15, 16, 17, 18, 19, 20, 21, 22, 23, 24, 25, 26, 27] rfl
        have hD9 : va_D (va_A (rW qm cI cJ cZ ad zr) s.heap.size) (rW qm cI cJ cZ ad (rs_i zr, rs_n zr, va_up (rs_I zr) 7 (upd (rs_I zr 7) js (-1)), rs_L zr)) := by rw [hlf.2]; exact hD.sub [0, 1, 2, 3, 4, 5, 6, 7, 8, 9, 10, 11, 12, 13, 14, 15, 16, 17, 18, 19, 20, 21, 22, 23, 24, 25, 26, 27] (by decide) rfl
        exact W.iret (v := 1) hx hb hr (fun t ht hW => ⟨⟨1, (rs_i zr, rs_n zr, va_up (rs_I zr) 7 (upd (rs_I zr 7) js (-1)), rs_L zr), rfl, ⟨hlf.1, (Or.inr (Or.inl ⟨js, rfl, hjs, c5, rfl, rfl⟩))⟩, by rw [ht]; exact hP9, va_K.moved hW.alike hK, hD9⟩, hS.F ht⟩) hS.2.2 dX11_lose_32
      · skip
        refine lv_iconst (v := 0) hx hb dX11_lose_18 (by decide) ?_
        refine lv_goto (tgt := 23) hx hb dX11_lose_19 (by decide) ?_
        refine lv_istore_n (lv' := [(2, .int 0), (0, .ref qm), (1, .int (nI js))]) hx hb dX11_lose_23 rfl hl (by decide) rfl (fun ls hl => ?_)
        refine lv_aload_n hx hb dX11_lose_24 rfl (lv_at hl 1 rfl) ?_
        refine va_get (D := (dC, dI)) (ci := 11) (v := .ref (ad 7)) (C := RX11) (T := TX11) (N := 39) hx hb hts hiX11 hown hK hP 0 rfl rfl 7 (by decide) (hts (.fieldLink RX11 22 "TributePitchesModel" "sheetSize" "[I") (List.mem_of_getElem? (i := 1) rfl)) (fun _ h9 => h9) rfl dX11_lose_25 ?_
        refine lv_iload_n hx hb dX11_lose_28 rfl (lv_at hl 2 rfl) ?_
        refine lv_iconst (v := (-1)) hx hb dX11_lose_29 (by decide) ?_
        refine va_iast hx hb hK hP hD hS 5 0 rfl rfl (vp_in_nI (by omega) (by omega)) dX11_lose_30 (fun H locs hP hD hS => ?_)
        rw [nI_clamp (n := js) (by omega)] at hP hD
        have hP : va_P (dC, dI) vwCl [rcO qm ad zr, rcI cI ad zr 2 48, rcI cI ad zr 3 48, rcI cI ad zr 4 48, rcI cI ad zr 5 48, (ad 7, .inl (cI, 4, .inl (upd (rs_I zr 7) js (-1)))), rcI cI ad zr 8 4, rcI cI ad zr 9 192, rcI cI ad zr 10 48, rcI cI ad zr 12 12, rcI cI ad zr 13 12, rcI cI ad zr 14 12, rcI cI ad zr 15 12, rcI cI ad zr 16 12, rcI cI ad zr 18 8, rcJ cJ ad zr 19 8, rcI cI ad zr 25 40, rcI cI ad zr 26 40, rcI cI ad zr 27 40, rcI cZ ad zr 28 40, rcJ cJ ad zr 29 40, rcJ cJ ad zr 30 40, rcJ cJ ad zr 31 40, rcJ cJ ad zr 32 40, rcJ cJ ad zr 33 40, rcI cI ad zr 35 80, rcI cI ad zr 36 80, rcI cI ad zr 37 80] H := hP
        have hD : va_D _ [rcO qm ad zr, rcI cI ad zr 2 48, rcI cI ad zr 3 48, rcI cI ad zr 4 48, rcI cI ad zr 5 48, (ad 7, .inl (cI, 4, .inl (upd (rs_I zr 7) js (-1)))), rcI cI ad zr 8 4, rcI cI ad zr 9 192, rcI cI ad zr 10 48, rcI cI ad zr 12 12, rcI cI ad zr 13 12, rcI cI ad zr 14 12, rcI cI ad zr 15 12, rcI cI ad zr 16 12, rcI cI ad zr 18 8, rcJ cJ ad zr 19 8, rcI cI ad zr 25 40, rcI cI ad zr 26 40, rcI cI ad zr 27 40, rcI cZ ad zr 28 40, rcJ cJ ad zr 29 40, rcJ cJ ad zr 30 40, rcJ cJ ad zr 31 40, rcJ cJ ad zr 32 40, rcJ cJ ad zr 33 40, rcI cI ad zr 35 80, rcI cI ad zr 36 80, rcI cI ad zr 37 80] := hD
        refine lv_iload_n hx hb dX11_lose_31 rfl (lv_at hl 0 rfl) ?_
        subst hQ
        have hlf := lr_lose_2 qm cI cJ cZ ad zr js hjs c5 hI
        have hP9 : va_P (dC, dI) vwCl (rW qm cI cJ cZ ad (rs_i zr, rs_n zr, va_up (rs_I zr) 7 (upd (rs_I zr 7) js (-1)), rs_L zr)) H := by rw [hlf.2]; exact hP.sub [0, 1, 2, 3, 4, 5, 6, 7, 8, 9, 10, 11, 12, 13, 14, 15, 16, 17, 18, 19, 20, 21, 22, 23, 24, 25, 26, 27] rfl
        have hD9 : va_D (va_A (rW qm cI cJ cZ ad zr) s.heap.size) (rW qm cI cJ cZ ad (rs_i zr, rs_n zr, va_up (rs_I zr) 7 (upd (rs_I zr 7) js (-1)), rs_L zr)) := by rw [hlf.2]; exact hD.sub [0, 1, 2, 3, 4, 5, 6, 7, 8, 9, 10, 11, 12, 13, 14, 15, 16, 17, 18, 19, 20, 21, 22, 23, 24, 25, 26, 27] (by decide) rfl
        exact W.iret (v := 0) hx hb hr (fun t ht hW => ⟨⟨0, (rs_i zr, rs_n zr, va_up (rs_I zr) 7 (upd (rs_I zr 7) js (-1)), rs_L zr), rfl, ⟨hlf.1, (Or.inr (Or.inr ⟨js, rfl, hjs, c5, rfl, rfl⟩))⟩, by rw [ht]; exact hP9, va_K.moved hW.alike hK, hD9⟩, hS.F ht⟩) hS.2.2 dX11_lose_32
    · exact absurd c3 (by decide)
theorem cpy_all (f g : Nat → Int32) : ∀ j, j < 48 → va_cpy f g 0 0 48 j = f j := fun j hj => by
  have e := pk_cpy_in (f := f) (g := g) (sp := 0) (dp := 0) (n := 48) (j := j) (Nat.zero_le j) (by omega)
  rw [e]
  congr 1
  omega
def dn : Nat → Int32
  | 0 => -1
  | k + 1 => nI k
theorem dn_pred (k : Nat) : nI k + (-1) = dn k := by
  cases k with
  | zero => rfl
  | succ k => exact pk_m1 k
def chg (fl fh gl gh : Nat → Int32) (j : Nat) : Bool := decide (gl j ≠ fl j ∨ gh j ≠ fh j)
def tcL (a : Nat) (lo : Int32) (g : Nat → Int32) : Nat → Int32 := upd g a (if g a < lo then lo else g a)
def tcH (a : Nat) (hi : Int32) (g : Nat → Int32) : Nat → Int32 := upd g a (if hi < g a then hi else g a)
def sw1L (d : Int32) (i : Nat) (a : Nat → Int32) : Nat → Int32 := if 8 ≤ i then tcL i ((if 0 < i % 8 then tcL i (a (i - 1) - d) a else a) (i - 8) - d) (if 0 < i % 8 then tcL i (a (i - 1) - d) a else a) else (if 0 < i % 8 then tcL i (a (i - 1) - d) a else a)
def sw1H (d : Int32) (i : Nat) (a : Nat → Int32) : Nat → Int32 := if 8 ≤ i then tcH i ((if 0 < i % 8 then tcH i (a (i - 1) + d) a else a) (i - 8) + d) (if 0 < i % 8 then tcH i (a (i - 1) + d) a else a) else (if 0 < i % 8 then tcH i (a (i - 1) + d) a else a)
def dn1L (d : Int32) (i : Nat) (a : Nat → Int32) : Nat → Int32 := if i < 40 then tcL i ((if i % 8 < 7 then tcL i (a (i + 1) - d) a else a) (i + 8) - d) (if i % 8 < 7 then tcL i (a (i + 1) - d) a else a) else (if i % 8 < 7 then tcL i (a (i + 1) - d) a else a)
def dn1H (d : Int32) (i : Nat) (a : Nat → Int32) : Nat → Int32 := if i < 40 then tcH i ((if i % 8 < 7 then tcH i (a (i + 1) + d) a else a) (i + 8) + d) (if i % 8 < 7 then tcH i (a (i + 1) + d) a else a) else (if i % 8 < 7 then tcH i (a (i + 1) + d) a else a)
def swL (d : Int32) (g : Nat → Int32) : Nat → Nat → Int32
  | 0 => g
  | i + 1 => sw1L d i (swL d g i)
def swH (d : Int32) (g : Nat → Int32) : Nat → Nat → Int32
  | 0 => g
  | i + 1 => sw1H d i (swH d g i)
def dnL (d : Int32) (g : Nat → Int32) : Nat → Nat → Int32
  | 0 => g
  | k + 1 => dn1L d (47 - k) (dnL d g k)
def dnH (d : Int32) (g : Nat → Int32) : Nat → Nat → Int32
  | 0 => g
  | k + 1 => dn1H d (47 - k) (dnH d g k)
set_option maxHeartbeats 4000000 in
set_option maxRecDepth 100000 in
theorem c_X3_beginTrial (l : Launch) (dC : Nat → ClassId) (dI : Nat → Nat → Nat) (cI : ClassId) (sz : Nat) (ql : Nat) (lw : Nat) (hg : Nat) (tl : Nat) (th : Nat) (law : Int32) (fl : Nat → Int32) (fh : Nat → Int32) (gl : Nat → Int32) (gh : Nat → Int32)  : Met l yX3_beginTrial wsX3_beginTrial ({ frames := 1, cells := 0, slots := 0, locals := 60 }) (pw (dC, dI) [(cI, .int)] [(ql, .inr (3, [.ref lw, .ref hg, .ref tl, .ref th, .int law])), (lw, .inl (cI, 48, .inl fl)), (hg, .inl (cI, 48, .inl fh)), (tl, .inl (cI, 48, .inl gl)), (th, .inl (cI, 48, .inl gh))] sz [.ref ql]) (va_Qv (fun (_ : Unit) => True) (fun _ t => bw (dC, dI) [(cI, .int)] (va_A [(ql, .inr (3, [.ref lw, .ref hg, .ref tl, .ref th, .int law])), (lw, .inl (cI, 48, .inl fl)), (hg, .inl (cI, 48, .inl fh)), (tl, .inl (cI, 48, .inl gl)), (th, .inl (cI, 48, .inl gh))] sz) [(ql, .inr (3, [.ref lw, .ref hg, .ref tl, .ref th, .int law])), (lw, .inl (cI, 48, .inl fl)), (hg, .inl (cI, 48, .inl fh)), (tl, .inl (cI, 48, .inl fl)), (th, .inl (cI, 48, .inl fh))] t) (va_A [(ql, .inr (3, [.ref lw, .ref hg, .ref tl, .ref th, .int law])), (lw, .inl (cI, 48, .inl fl)), (hg, .inl (cI, 48, .inl fh)), (tl, .inl (cI, 48, .inl gl)), (th, .inl (cI, 48, .inl gh))] sz)) 0 0 (va_A [(ql, .inr (3, [.ref lw, .ref hg, .ref tl, .ref th, .int law])), (lw, .inl (cI, 48, .inl fl)), (hg, .inl (cI, 48, .inl fh)), (tl, .inl (cI, 48, .inl gl)), (th, .inl (cI, 48, .inl gh))] sz) := by
  refine pw_met (cc := cX3_beginTrial) (maxL := 1) (ret := none) (by decide) rfl (Nat.le_of_ble_eq_true rfl) ?_
  intro p e s m below meth c0 hx hb hr hml hown hlocks hnm hts hP hK hD hN hsz hA hS ls hl
  subst hsz
  have hl : lv_has ls 1 [(0, .ref ql)] := hl
  have hiX3 : ∀ w ∈ wsX30, w ∈ wsX3_beginTrial := fun _ h => List.mem_cons_of_mem _ (List.mem_append_right _ (h))
  generalize hQ : MQ _ _ _ _ _ _ _ = Q
  refine lv_aload_n hx hb dX3_beginTrial_0 rfl (lv_at hl 0 rfl) ?_
  refine va_get (D := (dC, dI)) (ci := 3) (v := .ref lw) (C := RX3) (T := TX3) (N := 5) hx hb hts hiX3 hown hK hP 0 rfl rfl 0 (by decide) (hts (.fieldLink RX3 11 "TributePitches$Lode" "lows" "[I") (List.mem_of_getElem? (i := 1) rfl)) (fun _ h9 => h9) rfl dX3_beginTrial_1 ?_
  refine lv_iconst (v := 0) hx hb dX3_beginTrial_4 (by decide) ?_
  refine lv_aload_n hx hb dX3_beginTrial_5 rfl (lv_at hl 0 rfl) ?_
  refine va_get (D := (dC, dI)) (ci := 3) (v := .ref tl) (C := RX3) (T := TX3) (N := 5) hx hb hts hiX3 hown hK hP 0 rfl rfl 2 (by decide) (hts (.fieldLink RX3 18 "TributePitches$Lode" "triedLows" "[I") (List.mem_of_getElem? (i := 2) rfl)) (fun _ h9 => h9) rfl dX3_beginTrial_6 ?_
  refine lv_iconst (v := 0) hx hb dX3_beginTrial_9 (by decide) ?_
  refine lv_bipush (v := 48) hx hb dX3_beginTrial_10 (by decide) ?_
  refine va_copyi hx hb (hml.trans hl.1.symm) hown (hts (.methodLink RX3 38 arraycopyName) (List.mem_of_getElem? (i := 3) rfl)) (hts (.native arraycopyName) (List.mem_of_getElem? (i := 4) rfl)) (hts (.static arraycopyName) (List.mem_of_getElem? (i := 5) rfl)) (hts (.initialized "java/lang/System") (List.mem_of_getElem? (i := 6) rfl)) hK hP hD hS 1 3 0 0 rfl rfl rfl rfl rfl (by decide) (by decide) (by decide) (by decide) (by decide) (fun _ _ => rfl) (Nat.le_of_ble_eq_true rfl) (Nat.le_of_ble_eq_true rfl) dX3_beginTrial_12 (fun H locs hP hD hS => ?_)
  have hP : va_P (dC, dI) vwCl [(ql, .inr (3, [.ref lw, .ref hg, .ref tl, .ref th, .int law])), (lw, .inl (cI, 48, .inl fl)), (hg, .inl (cI, 48, .inl fh)), (tl, .inl (cI, 48, .inl (va_cpy fl gl 0 0 48))), (th, .inl (cI, 48, .inl gh))] H := hP
  have hD : va_D _ [(ql, .inr (3, [.ref lw, .ref hg, .ref tl, .ref th, .int law])), (lw, .inl (cI, 48, .inl fl)), (hg, .inl (cI, 48, .inl fh)), (tl, .inl (cI, 48, .inl (va_cpy fl gl 0 0 48))), (th, .inl (cI, 48, .inl gh))] := hD
  have hP := va_P_cg hP 3 fl rfl (cpy_all _ _)
  have hD := va_D_cg hD 3 fl rfl
  have hP : va_P (dC, dI) vwCl [(ql, .inr (3, [.ref lw, .ref hg, .ref tl, .ref th, .int law])), (lw, .inl (cI, 48, .inl fl)), (hg, .inl (cI, 48, .inl fh)), (tl, .inl (cI, 48, .inl fl)), (th, .inl (cI, 48, .inl gh))] H := hP
  have hD : va_D _ [(ql, .inr (3, [.ref lw, .ref hg, .ref tl, .ref th, .int law])), (lw, .inl (cI, 48, .inl fl)), (hg, .inl (cI, 48, .inl fh)), (tl, .inl (cI, 48, .inl fl)), (th, .inl (cI, 48, .inl gh))] := hD
  refine lv_aload_n hx hb dX3_beginTrial_15 rfl (lv_at hl 0 rfl) ?_
  refine va_get (D := (dC, dI)) (ci := 3) (v := .ref hg) (C := RX3) (T := TX3) (N := 5) hx hb hts hiX3 hown hK hP 0 rfl rfl 1 (by decide) (hts (.fieldLink RX3 15 "TributePitches$Lode" "highs" "[I") (List.mem_of_getElem? (i := 7) rfl)) (fun _ h9 => h9) rfl dX3_beginTrial_16 ?_
  refine lv_iconst (v := 0) hx hb dX3_beginTrial_19 (by decide) ?_
  refine lv_aload_n hx hb dX3_beginTrial_20 rfl (lv_at hl 0 rfl) ?_
  refine va_get (D := (dC, dI)) (ci := 3) (v := .ref th) (C := RX3) (T := TX3) (N := 5) hx hb hts hiX3 hown hK hP 0 rfl rfl 3 (by decide) (hts (.fieldLink RX3 21 "TributePitches$Lode" "triedHighs" "[I") (List.mem_of_getElem? (i := 8) rfl)) (fun _ h9 => h9) rfl dX3_beginTrial_21 ?_
  refine lv_iconst (v := 0) hx hb dX3_beginTrial_24 (by decide) ?_
  refine lv_bipush (v := 48) hx hb dX3_beginTrial_25 (by decide) ?_
  refine va_copyi hx hb (hml.trans hl.1.symm) hown (hts (.methodLink RX3 38 arraycopyName) (List.mem_of_getElem? (i := 3) rfl)) (hts (.native arraycopyName) (List.mem_of_getElem? (i := 4) rfl)) (hts (.static arraycopyName) (List.mem_of_getElem? (i := 5) rfl)) (hts (.initialized "java/lang/System") (List.mem_of_getElem? (i := 6) rfl)) hK hP hD hS 2 4 0 0 rfl rfl rfl rfl rfl (by decide) (by decide) (by decide) (by decide) (by decide) (fun _ _ => rfl) (Nat.le_of_ble_eq_true rfl) (Nat.le_of_ble_eq_true rfl) dX3_beginTrial_27 (fun H locs hP hD hS => ?_)
  have hP : va_P (dC, dI) vwCl [(ql, .inr (3, [.ref lw, .ref hg, .ref tl, .ref th, .int law])), (lw, .inl (cI, 48, .inl fl)), (hg, .inl (cI, 48, .inl fh)), (tl, .inl (cI, 48, .inl fl)), (th, .inl (cI, 48, .inl (va_cpy fh gh 0 0 48)))] H := hP
  have hD : va_D _ [(ql, .inr (3, [.ref lw, .ref hg, .ref tl, .ref th, .int law])), (lw, .inl (cI, 48, .inl fl)), (hg, .inl (cI, 48, .inl fh)), (tl, .inl (cI, 48, .inl fl)), (th, .inl (cI, 48, .inl (va_cpy fh gh 0 0 48)))] := hD
  have hP := va_P_cg hP 4 fh rfl (cpy_all _ _)
  have hD := va_D_cg hD 4 fh rfl
  have hP : va_P (dC, dI) vwCl [(ql, .inr (3, [.ref lw, .ref hg, .ref tl, .ref th, .int law])), (lw, .inl (cI, 48, .inl fl)), (hg, .inl (cI, 48, .inl fh)), (tl, .inl (cI, 48, .inl fl)), (th, .inl (cI, 48, .inl fh))] H := hP
  have hD : va_D _ [(ql, .inr (3, [.ref lw, .ref hg, .ref tl, .ref th, .int law])), (lw, .inl (cI, 48, .inl fl)), (hg, .inl (cI, 48, .inl fh)), (tl, .inl (cI, 48, .inl fl)), (th, .inl (cI, 48, .inl fh))] := hD
  subst hQ
  have hP9 := hP.sub (ws' := [(ql, .inr (3, [.ref lw, .ref hg, .ref tl, .ref th, .int law])), (lw, .inl (cI, 48, .inl fl)), (hg, .inl (cI, 48, .inl fh)), (tl, .inl (cI, 48, .inl fl)), (th, .inl (cI, 48, .inl fh))]) [0, 1, 2, 3, 4] rfl
  have hD9 := hD.sub (ws' := [(ql, .inr (3, [.ref lw, .ref hg, .ref tl, .ref th, .int law])), (lw, .inl (cI, 48, .inl fl)), (hg, .inl (cI, 48, .inl fh)), (tl, .inl (cI, 48, .inl fl)), (th, .inl (cI, 48, .inl fh))]) [0, 1, 2, 3, 4] (by decide) rfl
  have hK9 := hK.sub (tys' := [(cI, .int)]) [0] rfl
  exact W.vret hx hb hr (fun t ht hW => ⟨⟨(), rfl, trivial, ⟨by rw [ht]; exact hP9, va_K.moved hW.alike hK9, hD9⟩⟩, hS.F ht⟩) hS.2.2 dX3_beginTrial_30
set_option maxHeartbeats 4000000 in
set_option maxRecDepth 100000 in
theorem s_tryCommon (l : Launch) (dC : Nat → ClassId) (dI : Nat → Nat → Nat) (cI : ClassId) (sz : Nat) (ql : Nat) (tl : Nat) (th : Nat) (a : Nat) (u0 : Value) (u1 : Value) (u4 : Value) (lo : Int32) (hi : Int32) (gl : Nat → Int32) (gh : Nat → Int32) (ha : a < 48) : Met l yX3_tryCommon wsX3_tryCommon ({ frames := 1, cells := 0, slots := 0, locals := 30 }) (pw (dC, dI) [(cI, .int)] [(ql, .inr (3, [u0, u1, .ref tl, .ref th, u4])), (tl, .inl (cI, 48, .inl gl)), (th, .inl (cI, 48, .inl gh))] sz [.ref ql, .int (nI a), .int lo, .int hi]) (va_Qv (fun (_ : Unit) => True) (fun _ t => bw (dC, dI) [(cI, .int)] (va_A [(ql, .inr (3, [u0, u1, .ref tl, .ref th, u4])), (tl, .inl (cI, 48, .inl gl)), (th, .inl (cI, 48, .inl gh))] sz) [(ql, .inr (3, [u0, u1, .ref tl, .ref th, u4])), (tl, .inl (cI, 48, .inl (tcL a lo gl))), (th, .inl (cI, 48, .inl (tcH a hi gh)))] t) (va_A [(ql, .inr (3, [u0, u1, .ref tl, .ref th, u4])), (tl, .inl (cI, 48, .inl gl)), (th, .inl (cI, 48, .inl gh))] sz)) 0 0 (va_A [(ql, .inr (3, [u0, u1, .ref tl, .ref th, u4])), (tl, .inl (cI, 48, .inl gl)), (th, .inl (cI, 48, .inl gh))] sz) := by
  refine pw_met (cc := cX3_tryCommon) (maxL := 4) (ret := none) (by decide) rfl (Nat.le_of_ble_eq_true rfl) ?_
  intro p e s m below meth c0 hx hb hr hml hown hlocks hnm hts hP hK hD hN hsz hA hS ls hl
  subst hsz
  have hl : lv_has ls 4 [(0, .ref ql), (1, .int (nI a)), (2, .int lo), (3, .int hi)] := hl
  have hiX3 : ∀ w ∈ wsX30, w ∈ wsX3_tryCommon := fun _ h => List.mem_cons_of_mem _ (List.mem_append_right _ (h))
  generalize hQ : MQ _ _ _ _ _ _ _ = Q
  refine lv_aload_n hx hb dX3_tryCommon_0 rfl (lv_at hl 0 rfl) ?_
  refine va_get (D := (dC, dI)) (ci := 3) (v := .ref tl) (C := RX3) (T := TX3) (N := 5) hx hb hts hiX3 hown hK hP 0 rfl rfl 2 (by decide) (hts (.fieldLink RX3 18 "TributePitches$Lode" "triedLows" "[I") (List.mem_of_getElem? (i := 1) rfl)) (fun _ h9 => h9) rfl dX3_tryCommon_1 ?_
  refine lv_iload_n hx hb dX3_tryCommon_4 rfl (lv_at hl 1 rfl) ?_
  refine lv_aload_n hx hb dX3_tryCommon_5 rfl (lv_at hl 0 rfl) ?_
  refine va_get (D := (dC, dI)) (ci := 3) (v := .ref tl) (C := RX3) (T := TX3) (N := 5) hx hb hts hiX3 hown hK hP 0 rfl rfl 2 (by decide) (hts (.fieldLink RX3 18 "TributePitches$Lode" "triedLows" "[I") (List.mem_of_getElem? (i := 1) rfl)) (fun _ h9 => h9) rfl dX3_tryCommon_6 ?_
  refine lv_iload_n hx hb dX3_tryCommon_9 rfl (lv_at hl 1 rfl) ?_
  refine va_iald hx hb hK hP 1 0 rfl rfl (vp_in_nI (by omega) (by omega)) dX3_tryCommon_10 ?_
  refine lv_topi (fun v1 ev1 => ?_)
  have ev1 : v1 = gl a := by rw [ev1]; rw [nI_clamp (by omega)]
  subst ev1
  refine lv_iload_n hx hb dX3_tryCommon_11 rfl (lv_at hl 2 rfl) ?_
  refine va_mmax hx hb (hml.trans hl.1.symm) hown (hts (.methodLink RX3 44 Lib.Math.max.name) (List.mem_of_getElem? (i := 2) rfl)) (hts (.static Lib.Math.max.name) (List.mem_of_getElem? (i := 3) rfl)) (hts (.initialized "java/lang/Math") (List.mem_of_getElem? (i := 4) rfl)) (hts (.code Lib.Math.max.name Lib.Math.max.code 2 (some .int)) (List.mem_of_getElem? (i := 5) rfl)) (Nat.le_of_ble_eq_true rfl) (Nat.le_of_ble_eq_true rfl) (Nat.le_of_ble_eq_true rfl) (Nat.le_of_ble_eq_true rfl) dX3_tryCommon_12 ?_
  refine va_iast hx hb hK hP hD hS 1 0 rfl rfl (vp_in_nI (by omega) (by omega)) dX3_tryCommon_15 (fun H locs hP hD hS => ?_)
  rw [nI_clamp (n := a) (by omega)] at hP hD
  have hP : va_P (dC, dI) vwCl [(ql, .inr (3, [u0, u1, .ref tl, .ref th, u4])), (tl, .inl (cI, 48, .inl (upd gl a (if (gl a) < lo then lo else (gl a))))), (th, .inl (cI, 48, .inl gh))] H := hP
  have hD : va_D _ [(ql, .inr (3, [u0, u1, .ref tl, .ref th, u4])), (tl, .inl (cI, 48, .inl (upd gl a (if (gl a) < lo then lo else (gl a))))), (th, .inl (cI, 48, .inl gh))] := hD
  refine lv_aload_n hx hb dX3_tryCommon_16 rfl (lv_at hl 0 rfl) ?_
  refine va_get (D := (dC, dI)) (ci := 3) (v := .ref th) (C := RX3) (T := TX3) (N := 5) hx hb hts hiX3 hown hK hP 0 rfl rfl 3 (by decide) (hts (.fieldLink RX3 21 "TributePitches$Lode" "triedHighs" "[I") (List.mem_of_getElem? (i := 6) rfl)) (fun _ h9 => h9) rfl dX3_tryCommon_17 ?_
  refine lv_iload_n hx hb dX3_tryCommon_20 rfl (lv_at hl 1 rfl) ?_
  refine lv_aload_n hx hb dX3_tryCommon_21 rfl (lv_at hl 0 rfl) ?_
  refine va_get (D := (dC, dI)) (ci := 3) (v := .ref th) (C := RX3) (T := TX3) (N := 5) hx hb hts hiX3 hown hK hP 0 rfl rfl 3 (by decide) (hts (.fieldLink RX3 21 "TributePitches$Lode" "triedHighs" "[I") (List.mem_of_getElem? (i := 6) rfl)) (fun _ h9 => h9) rfl dX3_tryCommon_22 ?_
  refine lv_iload_n hx hb dX3_tryCommon_25 rfl (lv_at hl 1 rfl) ?_
  refine va_iald hx hb hK hP 2 0 rfl rfl (vp_in_nI (by omega) (by omega)) dX3_tryCommon_26 ?_
  refine lv_topi (fun v2 ev2 => ?_)
  have ev2 : v2 = gh a := by rw [ev2]; rw [nI_clamp (by omega)]
  subst ev2
  refine lv_iload_n hx hb dX3_tryCommon_27 rfl (lv_at hl 3 rfl) ?_
  refine va_mmin hx hb (hml.trans hl.1.symm) hown (hts (.methodLink RX3 50 Lib.Math.min.name) (List.mem_of_getElem? (i := 7) rfl)) (hts (.static Lib.Math.min.name) (List.mem_of_getElem? (i := 8) rfl)) (hts (.initialized "java/lang/Math") (List.mem_of_getElem? (i := 4) rfl)) (hts (.code Lib.Math.min.name Lib.Math.min.code 2 (some .int)) (List.mem_of_getElem? (i := 9) rfl)) (Nat.le_of_ble_eq_true rfl) (Nat.le_of_ble_eq_true rfl) (Nat.le_of_ble_eq_true rfl) (Nat.le_of_ble_eq_true rfl) dX3_tryCommon_28 ?_
  refine va_iast hx hb hK hP hD hS 2 0 rfl rfl (vp_in_nI (by omega) (by omega)) dX3_tryCommon_31 (fun H locs hP hD hS => ?_)
  rw [nI_clamp (n := a) (by omega)] at hP hD
  have hP : va_P (dC, dI) vwCl [(ql, .inr (3, [u0, u1, .ref tl, .ref th, u4])), (tl, .inl (cI, 48, .inl (upd gl a (if (gl a) < lo then lo else (gl a))))), (th, .inl (cI, 48, .inl (upd gh a (if hi < (gh a) then hi else (gh a)))))] H := hP
  have hD : va_D _ [(ql, .inr (3, [u0, u1, .ref tl, .ref th, u4])), (tl, .inl (cI, 48, .inl (upd gl a (if (gl a) < lo then lo else (gl a))))), (th, .inl (cI, 48, .inl (upd gh a (if hi < (gh a) then hi else (gh a)))))] := hD
  subst hQ
  have hP9 := hP.sub (ws' := [(ql, .inr (3, [u0, u1, .ref tl, .ref th, u4])), (tl, .inl (cI, 48, .inl (upd gl a (if (gl a) < lo then lo else (gl a))))), (th, .inl (cI, 48, .inl (upd gh a (if hi < (gh a) then hi else (gh a)))))]) [0, 1, 2] rfl
  have hD9 := hD.sub (ws' := [(ql, .inr (3, [u0, u1, .ref tl, .ref th, u4])), (tl, .inl (cI, 48, .inl (upd gl a (if (gl a) < lo then lo else (gl a))))), (th, .inl (cI, 48, .inl (upd gh a (if hi < (gh a) then hi else (gh a)))))]) [0, 1, 2] (by decide) rfl
  have hK9 := hK.sub (tys' := [(cI, .int)]) [0] rfl
  exact W.vret hx hb hr (fun t ht hW => ⟨⟨(), rfl, trivial, ⟨by rw [ht]; exact hP9, va_K.moved hW.alike hK9, hD9⟩⟩, hS.F ht⟩) hS.2.2 dX3_tryCommon_32
set_option maxHeartbeats 4000000 in
set_option maxRecDepth 100000 in
theorem s_tryNeighbour (l : Launch) (dC : Nat → ClassId) (dI : Nat → Nat → Nat) (cI : ClassId) (sz : Nat) (ql : Nat) (tl : Nat) (th : Nat) (a : Nat) (b : Nat) (u0 : Value) (u1 : Value) (u4 : Value) (dd : Int32) (gl : Nat → Int32) (gh : Nat → Int32) (ha : a < 48) (hb : b < 48) : Met l yX3_tryNeighbour wsX3_tryNeighbour ({ frames := 2, cells := 0, slots := 0, locals := 60 }) (pw (dC, dI) [(cI, .int)] [(ql, .inr (3, [u0, u1, .ref tl, .ref th, u4])), (tl, .inl (cI, 48, .inl gl)), (th, .inl (cI, 48, .inl gh))] sz [.ref ql, .int (nI a), .int (nI b), .int dd]) (va_Qv (fun (_ : Unit) => True) (fun _ t => bw (dC, dI) [(cI, .int)] (va_A [(ql, .inr (3, [u0, u1, .ref tl, .ref th, u4])), (tl, .inl (cI, 48, .inl gl)), (th, .inl (cI, 48, .inl gh))] sz) [(ql, .inr (3, [u0, u1, .ref tl, .ref th, u4])), (tl, .inl (cI, 48, .inl (tcL a ((gl b) - dd) gl))), (th, .inl (cI, 48, .inl (tcH a ((gh b) + dd) gh)))] t) (va_A [(ql, .inr (3, [u0, u1, .ref tl, .ref th, u4])), (tl, .inl (cI, 48, .inl gl)), (th, .inl (cI, 48, .inl gh))] sz)) 0 0 (va_A [(ql, .inr (3, [u0, u1, .ref tl, .ref th, u4])), (tl, .inl (cI, 48, .inl gl)), (th, .inl (cI, 48, .inl gh))] sz) := by
  refine pw_met (cc := cX3_tryNeighbour) (maxL := 4) (ret := none) (by decide) rfl (Nat.le_of_ble_eq_true rfl) ?_
  intro p e s m below meth c0 hx hb hr hml hown hlocks hnm hts hP hK hD hN hsz hA hS ls hl
  subst hsz
  have hl : lv_has ls 4 [(0, .ref ql), (1, .int (nI a)), (2, .int (nI b)), (3, .int dd)] := hl
  have hiX3 : ∀ w ∈ wsX30, w ∈ wsX3_tryNeighbour := fun _ h => List.mem_cons_of_mem _ (List.mem_append_right _ (h))
  generalize hQ : MQ _ _ _ _ _ _ _ = Q
  refine lv_aload_n hx hb dX3_tryNeighbour_0 rfl (lv_at hl 0 rfl) ?_
  refine lv_iload_n hx hb dX3_tryNeighbour_1 rfl (lv_at hl 1 rfl) ?_
  refine lv_aload_n hx hb dX3_tryNeighbour_2 rfl (lv_at hl 0 rfl) ?_
  refine va_get (D := (dC, dI)) (ci := 3) (v := .ref tl) (C := RX3) (T := TX3) (N := 5) hx hb hts hiX3 hown hK hP 0 rfl rfl 2 (by decide) (hts (.fieldLink RX3 18 "TributePitches$Lode" "triedLows" "[I") (List.mem_of_getElem? (i := 1) rfl)) (fun _ h9 => h9) rfl dX3_tryNeighbour_3 ?_
  refine lv_iload_n hx hb dX3_tryNeighbour_6 rfl (lv_at hl 2 rfl) ?_
  refine va_iald hx hb hK hP 1 0 rfl rfl (vp_in_nI (by omega) (by omega)) dX3_tryNeighbour_7 ?_
  refine lv_topi (fun v1 ev1 => ?_)
  have ev1 : v1 = gl b := by rw [ev1]; rw [nI_clamp (by omega)]
  subst ev1
  refine lv_iload_n hx hb dX3_tryNeighbour_8 rfl (lv_at hl 3 rfl) ?_
  refine lv_isub hx hb dX3_tryNeighbour_9 ?_
  refine lv_aload_n hx hb dX3_tryNeighbour_10 rfl (lv_at hl 0 rfl) ?_
  refine va_get (D := (dC, dI)) (ci := 3) (v := .ref th) (C := RX3) (T := TX3) (N := 5) hx hb hts hiX3 hown hK hP 0 rfl rfl 3 (by decide) (hts (.fieldLink RX3 21 "TributePitches$Lode" "triedHighs" "[I") (List.mem_of_getElem? (i := 2) rfl)) (fun _ h9 => h9) rfl dX3_tryNeighbour_11 ?_
  refine lv_iload_n hx hb dX3_tryNeighbour_14 rfl (lv_at hl 2 rfl) ?_
  refine va_iald hx hb hK hP 2 0 rfl rfl (vp_in_nI (by omega) (by omega)) dX3_tryNeighbour_15 ?_
  refine lv_topi (fun v2 ev2 => ?_)
  have ev2 : v2 = gh b := by rw [ev2]; rw [nI_clamp (by omega)]
  subst ev2
  refine lv_iload_n hx hb dX3_tryNeighbour_16 rfl (lv_at hl 3 rfl) ?_
  refine lv_iadd hx hb dX3_tryNeighbour_17 ?_
  have hPc := hP.sub (ws' := [(ql, .inr (3, [u0, u1, .ref tl, .ref th, u4])), (tl, .inl (cI, 48, .inl gl)), (th, .inl (cI, 48, .inl gh))]) [0, 1, 2] rfl
  have hDc := hD.sub (ws' := [(ql, .inr (3, [u0, u1, .ref tl, .ref th, u4])), (tl, .inl (cI, 48, .inl gl)), (th, .inl (cI, 48, .inl gh))]) [0, 1, 2] (by decide) rfl
  have hKc := hK.sub (tys' := [(cI, .int)]) [0] rfl
  have hFc := va_free (wc := [(ql, .inr (3, [u0, u1, .ref tl, .ref th, u4])), (tl, .inl (cI, 48, .inl gl)), (th, .inl (cI, 48, .inl gh))]) hD hS hA [0, 1, 2] rfl
  refine va_callv (va_runV (As := [.int (nI a), .int ((gl b) - dd), .int ((gh b) + dd)]) (rest := []) ⟨hx, hb, hml, hown, hts⟩ (s_tryCommon l dC dI cI _ ql tl th a u0 u1 u4 ((gl b) - dd) ((gh b) + dd) gl gh ha) (cwV 3 hts gX3_tryNeighbour_X3_tryCommon rfl rfl rfl (by decide +kernel) ⟨Nat.le_of_ble_eq_true rfl, Nat.le_of_ble_eq_true rfl⟩) (pw_preV (va_recv hKc hPc (ci := 3) (q0 := 0) rfl rfl) hPc hKc hDc hN) rfl rfl hl.1 rfl (lv_room (Nat.le_of_ble_eq_true rfl)) dX3_tryNeighbour_18 ⟨Nat.le_of_ble_eq_true rfl, Nat.le_of_ble_eq_true rfl⟩) hS (fun q _ h => hFc q h) hFc (fun u t H1 locs ht hvm hw hB hz1 hk1 hS => ?_)
  obtain ⟨hP1, hK1, hD1⟩ := hB
  rw [ht] at hP1
  obtain ⟨hP, hD⟩ := va_join (wr := []) (w1 := [(ql, .inr (3, [u0, u1, .ref tl, .ref th, u4])), (tl, .inl (cI, 48, .inl (tcL a ((gl b) - dd) gl))), (th, .inl (cI, 48, .inl (tcH a ((gh b) + dd) gh)))]) hP hD [0, 1, 2] [] rfl rfl (by decide) (by decide) hk1 hFc hP1 hD1
  generalize H1 = H at hP hS ⊢
  have hP : va_P (dC, dI) vwCl [(ql, .inr (3, [u0, u1, .ref tl, .ref th, u4])), (tl, .inl (cI, 48, .inl (tcL a ((gl b) - dd) gl))), (th, .inl (cI, 48, .inl (tcH a ((gh b) + dd) gh)))] H := hP
  have hD : va_D _ [(ql, .inr (3, [u0, u1, .ref tl, .ref th, u4])), (tl, .inl (cI, 48, .inl (tcL a ((gl b) - dd) gl))), (th, .inl (cI, 48, .inl (tcH a ((gh b) + dd) gh)))] := hD
  subst hQ
  have hP9 := hP.sub (ws' := [(ql, .inr (3, [u0, u1, .ref tl, .ref th, u4])), (tl, .inl (cI, 48, .inl (tcL a ((gl b) - dd) gl))), (th, .inl (cI, 48, .inl (tcH a ((gh b) + dd) gh)))]) [0, 1, 2] rfl
  have hD9 := hD.sub (ws' := [(ql, .inr (3, [u0, u1, .ref tl, .ref th, u4])), (tl, .inl (cI, 48, .inl (tcL a ((gl b) - dd) gl))), (th, .inl (cI, 48, .inl (tcH a ((gh b) + dd) gh)))]) [0, 1, 2] (by decide) rfl
  have hK9 := hK.sub (tys' := [(cI, .int)]) [0] rfl
  exact W.vret hx hb hr (fun t ht hW => ⟨⟨(), rfl, trivial, ⟨by rw [ht]; exact hP9, va_K.moved hW.alike hK9, hD9⟩⟩, hS.F ht⟩) hS.2.2 dX3_tryNeighbour_21
set_option maxHeartbeats 4000000 in
set_option maxRecDepth 100000 in
theorem s_narrowTrial (l : Launch) (dC : Nat → ClassId) (dI : Nat → Nat → Nat) (cI : ClassId) (sz : Nat) (ql : Nat) (tl : Nat) (th : Nat) (u0 : Value) (u1 : Value) (u4 : Value) (dd : Int32) (gl : Nat → Int32) (gh : Nat → Int32)  : Met l yX3_narrowTrial wsX3_narrowTrial ({ frames := 3, cells := 0, slots := 0, locals := 90 }) (pw (dC, dI) [(cI, .int)] [(ql, .inr (3, [u0, u1, .ref tl, .ref th, u4])), (tl, .inl (cI, 48, .inl gl)), (th, .inl (cI, 48, .inl gh))] sz [.ref ql, .int dd]) (va_Qv (fun (_ : Unit) => True) (fun _ t => bw (dC, dI) [(cI, .int)] (va_A [(ql, .inr (3, [u0, u1, .ref tl, .ref th, u4])), (tl, .inl (cI, 48, .inl gl)), (th, .inl (cI, 48, .inl gh))] sz) [(ql, .inr (3, [u0, u1, .ref tl, .ref th, u4])), (tl, .inl (cI, 48, .inl (dnL dd (swL dd gl 48) 48))), (th, .inl (cI, 48, .inl (dnH dd (swH dd gh 48) 48)))] t) (va_A [(ql, .inr (3, [u0, u1, .ref tl, .ref th, u4])), (tl, .inl (cI, 48, .inl gl)), (th, .inl (cI, 48, .inl gh))] sz)) 0 0 (va_A [(ql, .inr (3, [u0, u1, .ref tl, .ref th, u4])), (tl, .inl (cI, 48, .inl gl)), (th, .inl (cI, 48, .inl gh))] sz) := by
  refine pw_met (cc := cX3_narrowTrial) (maxL := 3) (ret := none) (by decide) rfl (Nat.le_of_ble_eq_true rfl) ?_
  intro p e s m below meth c0 hx hb hr hml hown hlocks hnm hts hP hK hD hN hsz hA hS ls hl
  subst hsz
  have hl : lv_has ls 3 [(0, .ref ql), (1, .int dd)] := hl
  generalize hQ : MQ _ _ _ _ _ _ _ = Q
  refine lv_iconst (v := 0) hx hb dX3_narrowTrial_0 (by decide) ?_
  refine lv_istore_n (lv' := [(2, .int 0), (0, .ref ql), (1, .int dd)]) hx hb dX3_narrowTrial_1 rfl hl (by decide) rfl (fun ls hl => ?_)
  have loop2 : ∀ (ni2 i2 : Nat) (al : Nat → Int32) (ah : Nat → Int32) (H : Heap) (locs : List Loc) (ls : Array Slot), i2 ≤ 48 → 48 + 1 ≤ i2 + ni2 → al = swL dd gl i2 → ah = swH dd gh i2 → va_P (dC, dI) vwCl [(ql, .inr (3, [u0, u1, .ref tl, .ref th, u4])), (tl, .inl (cI, 48, .inl al)), (th, .inl (cI, 48, .inl ah))] H → va_D (va_A [(ql, .inr (3, [u0, u1, .ref tl, .ref th, u4])), (tl, .inl (cI, 48, .inl gl)), (th, .inl (cI, 48, .inl gh))] s.heap.size) [(ql, .inr (3, [u0, u1, .ref tl, .ref th, u4])), (tl, .inl (cI, 48, .inl al)), (th, .inl (cI, 48, .inl ah))] → va_S (va_A [(ql, .inr (3, [u0, u1, .ref tl, .ref th, u4])), (tl, .inl (cI, 48, .inl gl)), (th, .inl (cI, 48, .inl gh))] s.heap.size) s.heap H locs → lv_has ls 3 [(2, .int (nI i2)), (0, .ref ql), (1, .int dd)] → W p l e ({ frames := 3, cells := 0, slots := 0, locals := 90 } : Room) s m ([.ref ql, .int dd] : List Value).toArray below meth c0 H locs 0 0 Q (F0 m 2 ls []) := by
    intro ni2
    induction ni2 with
    | zero =>
      intro i2 al ah H locs ls h1 h2
      exact absurd h2 (by omega)
    | succ ni2 ihi2 =>
      intro i2 al ah H locs ls hlei2 hni2 hal hah hP hD hS hl
      refine lv_iload_n hx hb dX3_narrowTrial_2 rfl (lv_at hl 0 rfl) ?_
      refine lv_bipush (v := 48) hx hb dX3_narrowTrial_3 (by decide) ?_
      refine lv_icmp_ge (tgt := 46) hx hb dX3_narrowTrial_5 (by decide) (fun c1 => ?_) (fun c1 => ?_)
      · skip
        have hei2 : i2 = 48 := (Nat.lt_or_ge i2 48).elim (fun q => absurd c1 (show ¬ nI 48 ≤ nI i2 from nI_ge q (by omega))) (fun q => by omega)
        refine lv_bipush (v := 47) hx hb dX3_narrowTrial_46 (by decide) ?_
        refine lv_istore_n (lv' := [(2, .int 47), (0, .ref ql), (1, .int dd)]) hx hb dX3_narrowTrial_48 rfl hl (by decide) rfl (fun ls hl => ?_)
        have loop49 : ∀ (i49 : Nat) (al : Nat → Int32) (ah : Nat → Int32) (H : Heap) (locs : List Loc) (ls : Array Slot), i49 ≤ 48 → al = dnL dd (swL dd gl 48) (48 - i49) → ah = dnH dd (swH dd gh 48) (48 - i49) → va_P (dC, dI) vwCl [(ql, .inr (3, [u0, u1, .ref tl, .ref th, u4])), (tl, .inl (cI, 48, .inl al)), (th, .inl (cI, 48, .inl ah))] H → va_D (va_A [(ql, .inr (3, [u0, u1, .ref tl, .ref th, u4])), (tl, .inl (cI, 48, .inl gl)), (th, .inl (cI, 48, .inl gh))] s.heap.size) [(ql, .inr (3, [u0, u1, .ref tl, .ref th, u4])), (tl, .inl (cI, 48, .inl al)), (th, .inl (cI, 48, .inl ah))] → va_S (va_A [(ql, .inr (3, [u0, u1, .ref tl, .ref th, u4])), (tl, .inl (cI, 48, .inl gl)), (th, .inl (cI, 48, .inl gh))] s.heap.size) s.heap H locs → lv_has ls 3 [(2, .int (dn i49)), (0, .ref ql), (1, .int dd)] → W p l e ({ frames := 3, cells := 0, slots := 0, locals := 90 } : Room) s m ([.ref ql, .int dd] : List Value).toArray below meth c0 H locs 0 0 Q (F0 m 49 ls []) := by
          intro i49
          induction i49 with
          | zero =>
            intro al ah H locs ls hle hal hah hP hD hS hl
            have hl : lv_has ls 3 [(2, .int (-1)), (0, .ref ql), (1, .int dd)] := hl
            refine lv_iload_n hx hb dX3_narrowTrial_49 rfl (lv_at hl 0 rfl) ?_
            refine lv_if_lt (tgt := 93) hx hb dX3_narrowTrial_50 (by decide) (fun c2 => ?_) (fun c2 => ?_)
            · skip
              subst hal
              subst hah
              have hP : va_P (dC, dI) vwCl [(ql, .inr (3, [u0, u1, .ref tl, .ref th, u4])), (tl, .inl (cI, 48, .inl (dnL dd (swL dd gl 48) (48 - 0)))), (th, .inl (cI, 48, .inl (dnH dd (swH dd gh 48) (48 - 0))))] H := hP
              have hD : va_D _ [(ql, .inr (3, [u0, u1, .ref tl, .ref th, u4])), (tl, .inl (cI, 48, .inl (dnL dd (swL dd gl 48) (48 - 0)))), (th, .inl (cI, 48, .inl (dnH dd (swH dd gh 48) (48 - 0))))] := hD
              subst hQ
              have hP9 := hP.sub (ws' := [(ql, .inr (3, [u0, u1, .ref tl, .ref th, u4])), (tl, .inl (cI, 48, .inl (dnL dd (swL dd gl 48) (48 - 0)))), (th, .inl (cI, 48, .inl (dnH dd (swH dd gh 48) (48 - 0))))]) [0, 1, 2] rfl
              have hD9 := hD.sub (ws' := [(ql, .inr (3, [u0, u1, .ref tl, .ref th, u4])), (tl, .inl (cI, 48, .inl (dnL dd (swL dd gl 48) (48 - 0)))), (th, .inl (cI, 48, .inl (dnH dd (swH dd gh 48) (48 - 0))))]) [0, 1, 2] (by decide) rfl
              have hK9 := hK.sub (tys' := [(cI, .int)]) [0] rfl
              exact W.vret hx hb hr (fun t ht hW => ⟨⟨(), rfl, trivial, ⟨by rw [ht]; exact hP9, va_K.moved hW.alike hK9, hD9⟩⟩, hS.F ht⟩) hS.2.2 dX3_narrowTrial_93
            · exact absurd c2 (by decide)
          | succ i49 ih =>
            intro al ah H locs ls hle hal hah hP hD hS hl
            have hl : lv_has ls 3 [(2, .int (nI i49)), (0, .ref ql), (1, .int dd)] := hl
            refine lv_iload_n hx hb dX3_narrowTrial_49 rfl (lv_at hl 0 rfl) ?_
            refine lv_if_lt (tgt := 93) hx hb dX3_narrowTrial_50 (by decide) (fun c3 => ?_) (fun c3 => ?_)
            · exact absurd c3 (nI_pos (by omega))
            · skip
              refine lv_iload_n hx hb dX3_narrowTrial_53 rfl (lv_at hl 0 rfl) ?_
              refine lv_bipush (v := 8) hx hb dX3_narrowTrial_54 (by decide) ?_
              refine lv_irem hx hb dX3_narrowTrial_56 (by decide) ?_
              refine lv_topi (fun v56 ev56 => ?_)
              have ev56 : v56 = nI (i49 % 8) := by rw [ev56]; exact pk_rem (d := 8) (by omega) (by decide) (by decide)
              subst ev56
              refine lv_bipush (v := 7) hx hb dX3_narrowTrial_57 (by decide) ?_
              refine lv_icmp_ge (tgt := 71) hx hb dX3_narrowTrial_59 (by decide) (fun c4 => ?_) (fun c4 => ?_)
              · skip
                have hq1 : ¬ i49 % 8 < 7 := fun q => absurd (show nI 7 ≤ nI (i49 % 8) from c4) (nI_ge q (by omega))
                refine lv_iload_n hx hb dX3_narrowTrial_71 rfl (lv_at hl 0 rfl) ?_
                refine lv_bipush (v := 40) hx hb dX3_narrowTrial_72 (by decide) ?_
                refine lv_icmp_ge (tgt := 87) hx hb dX3_narrowTrial_74 (by decide) (fun c5 => ?_) (fun c5 => ?_)
                · skip
                  have hq2 : ¬ i49 < 40 := fun q => absurd (show nI 40 ≤ nI i49 from c5) (nI_ge q (by omega))
                  refine lv_iinc (v := dn i49) (lv' := [(2, .int (dn i49)), (0, .ref ql), (1, .int dd)]) hx hb dX3_narrowTrial_87 hl (k := 0) rfl (dn_pred i49) (by decide) rfl (fun ls hl => ?_)
                  refine lv_goto (tgt := 49) hx hb dX3_narrowTrial_90 (by decide) ?_
                  exact ih al ah _ _ ls (by omega) (by rw [show 48 - i49 = (48 - (i49 + 1)) + 1 by omega, dnL, ← hal, show 47 - (48 - (i49 + 1)) = i49 by omega]; simp [dn1L, hq1, hq2]) (by rw [show 48 - i49 = (48 - (i49 + 1)) + 1 by omega, dnH, ← hah, show 47 - (48 - (i49 + 1)) = i49 by omega]; simp [dn1H, hq1, hq2]) (hP.sub [0, 1, 2] rfl) (hD.sub [0, 1, 2] (by decide) rfl) hS (lv_sub hl [0, 1, 2] rfl)
                · skip
                  have hq2 : i49 < 40 := (Nat.lt_or_ge i49 40).elim id (fun q => absurd (show nI 40 ≤ nI i49 from nI_le q (by omega)) c5)
                  refine lv_aload_n hx hb dX3_narrowTrial_77 rfl (lv_at hl 1 rfl) ?_
                  refine lv_iload_n hx hb dX3_narrowTrial_78 rfl (lv_at hl 0 rfl) ?_
                  refine lv_iload_n hx hb dX3_narrowTrial_79 rfl (lv_at hl 0 rfl) ?_
                  refine lv_bipush (v := 8) hx hb dX3_narrowTrial_80 (by decide) ?_
                  refine lv_iadd hx hb dX3_narrowTrial_82 ?_
                  refine lv_topi (fun v82 ev82 => ?_)
                  have ev82 : v82 = nI (i49 + 8) := by rw [ev82]; exact nI_add i49 8
                  subst ev82
                  refine lv_iload_n hx hb dX3_narrowTrial_83 rfl (lv_at hl 2 rfl) ?_
                  have hPc := hP.sub (ws' := [(ql, .inr (3, [u0, u1, .ref tl, .ref th, u4])), (tl, .inl (cI, 48, .inl al)), (th, .inl (cI, 48, .inl ah))]) [0, 1, 2] rfl
                  have hDc := hD.sub (ws' := [(ql, .inr (3, [u0, u1, .ref tl, .ref th, u4])), (tl, .inl (cI, 48, .inl al)), (th, .inl (cI, 48, .inl ah))]) [0, 1, 2] (by decide) rfl
                  have hKc := hK.sub (tys' := [(cI, .int)]) [0] rfl
                  have hFc := va_free (wc := [(ql, .inr (3, [u0, u1, .ref tl, .ref th, u4])), (tl, .inl (cI, 48, .inl al)), (th, .inl (cI, 48, .inl ah))]) hD hS hA [0, 1, 2] rfl
                  refine va_callv (va_runV (As := [.int (nI i49), .int (nI (i49 + 8)), .int dd]) (rest := []) ⟨hx, hb, hml, hown, hts⟩ (s_tryNeighbour l dC dI cI _ ql tl th (i49) (i49 + 8) u0 u1 u4 dd al ah (by omega) (by omega)) (cwV 3 hts gX3_narrowTrial_X3_tryNeighbour rfl rfl rfl (by decide +kernel) ⟨Nat.le_of_ble_eq_true rfl, Nat.le_of_ble_eq_true rfl⟩) (pw_preV (va_recv hKc hPc (ci := 3) (q0 := 0) rfl rfl) hPc hKc hDc hN) rfl rfl hl.1 rfl (lv_room (Nat.le_of_ble_eq_true rfl)) dX3_narrowTrial_84 ⟨Nat.le_of_ble_eq_true rfl, Nat.le_of_ble_eq_true rfl⟩) hS (fun q _ h => hFc q h) hFc (fun u t H1 locs ht hvm hw hB hz1 hk1 hS => ?_)
                  obtain ⟨hP1, hK1, hD1⟩ := hB
                  rw [ht] at hP1
                  obtain ⟨hP, hD⟩ := va_join (wr := []) (w1 := [(ql, .inr (3, [u0, u1, .ref tl, .ref th, u4])), (tl, .inl (cI, 48, .inl (tcL (i49) ((al (i49 + 8)) - dd) al))), (th, .inl (cI, 48, .inl (tcH (i49) ((ah (i49 + 8)) + dd) ah)))]) hP hD [0, 1, 2] [] rfl rfl (by decide) (by decide) hk1 hFc hP1 hD1
                  generalize H1 = H at hP hS ⊢
                  have hP : va_P (dC, dI) vwCl [(ql, .inr (3, [u0, u1, .ref tl, .ref th, u4])), (tl, .inl (cI, 48, .inl (tcL (i49) ((al (i49 + 8)) - dd) al))), (th, .inl (cI, 48, .inl (tcH (i49) ((ah (i49 + 8)) + dd) ah)))] H := hP
                  have hD : va_D _ [(ql, .inr (3, [u0, u1, .ref tl, .ref th, u4])), (tl, .inl (cI, 48, .inl (tcL (i49) ((al (i49 + 8)) - dd) al))), (th, .inl (cI, 48, .inl (tcH (i49) ((ah (i49 + 8)) + dd) ah)))] := hD
                  refine lv_iinc (v := dn i49) (lv' := [(2, .int (dn i49)), (0, .ref ql), (1, .int dd)]) hx hb dX3_narrowTrial_87 hl (k := 0) rfl (dn_pred i49) (by decide) rfl (fun ls hl => ?_)
                  refine lv_goto (tgt := 49) hx hb dX3_narrowTrial_90 (by decide) ?_
                  exact ih (tcL (i49) ((al (i49 + 8)) - dd) al) (tcH (i49) ((ah (i49 + 8)) + dd) ah) _ _ ls (by omega) (by rw [show 48 - i49 = (48 - (i49 + 1)) + 1 by omega, dnL, ← hal, show 47 - (48 - (i49 + 1)) = i49 by omega]; simp [dn1L, hq1, hq2]) (by rw [show 48 - i49 = (48 - (i49 + 1)) + 1 by omega, dnH, ← hah, show 47 - (48 - (i49 + 1)) = i49 by omega]; simp [dn1H, hq1, hq2]) (hP.sub [0, 1, 2] rfl) (hD.sub [0, 1, 2] (by decide) rfl) hS (lv_sub hl [0, 1, 2] rfl)
              · skip
                have hq1 : i49 % 8 < 7 := (Nat.lt_or_ge (i49 % 8) 7).elim id (fun q => absurd (show nI 7 ≤ nI (i49 % 8) from nI_le q (by omega)) c4)
                refine lv_aload_n hx hb dX3_narrowTrial_62 rfl (lv_at hl 1 rfl) ?_
                refine lv_iload_n hx hb dX3_narrowTrial_63 rfl (lv_at hl 0 rfl) ?_
                refine lv_iload_n hx hb dX3_narrowTrial_64 rfl (lv_at hl 0 rfl) ?_
                refine lv_iconst (v := 1) hx hb dX3_narrowTrial_65 (by decide) ?_
                refine lv_iadd hx hb dX3_narrowTrial_66 ?_
                refine lv_topi (fun v66 ev66 => ?_)
                have ev66 : v66 = nI (i49 + 1) := by rw [ev66]; exact nI_1 i49
                subst ev66
                refine lv_iload_n hx hb dX3_narrowTrial_67 rfl (lv_at hl 2 rfl) ?_
                have hPc := hP.sub (ws' := [(ql, .inr (3, [u0, u1, .ref tl, .ref th, u4])), (tl, .inl (cI, 48, .inl al)), (th, .inl (cI, 48, .inl ah))]) [0, 1, 2] rfl
                have hDc := hD.sub (ws' := [(ql, .inr (3, [u0, u1, .ref tl, .ref th, u4])), (tl, .inl (cI, 48, .inl al)), (th, .inl (cI, 48, .inl ah))]) [0, 1, 2] (by decide) rfl
                have hKc := hK.sub (tys' := [(cI, .int)]) [0] rfl
                have hFc := va_free (wc := [(ql, .inr (3, [u0, u1, .ref tl, .ref th, u4])), (tl, .inl (cI, 48, .inl al)), (th, .inl (cI, 48, .inl ah))]) hD hS hA [0, 1, 2] rfl
                refine va_callv (va_runV (As := [.int (nI i49), .int (nI (i49 + 1)), .int dd]) (rest := []) ⟨hx, hb, hml, hown, hts⟩ (s_tryNeighbour l dC dI cI _ ql tl th (i49) (i49 + 1) u0 u1 u4 dd al ah (by omega) (by omega)) (cwV 3 hts gX3_narrowTrial_X3_tryNeighbour rfl rfl rfl (by decide +kernel) ⟨Nat.le_of_ble_eq_true rfl, Nat.le_of_ble_eq_true rfl⟩) (pw_preV (va_recv hKc hPc (ci := 3) (q0 := 0) rfl rfl) hPc hKc hDc hN) rfl rfl hl.1 rfl (lv_room (Nat.le_of_ble_eq_true rfl)) dX3_narrowTrial_68 ⟨Nat.le_of_ble_eq_true rfl, Nat.le_of_ble_eq_true rfl⟩) hS (fun q _ h => hFc q h) hFc (fun u t H1 locs ht hvm hw hB hz1 hk1 hS => ?_)
                obtain ⟨hP1, hK1, hD1⟩ := hB
                rw [ht] at hP1
                obtain ⟨hP, hD⟩ := va_join (wr := []) (w1 := [(ql, .inr (3, [u0, u1, .ref tl, .ref th, u4])), (tl, .inl (cI, 48, .inl (tcL (i49) ((al (i49 + 1)) - dd) al))), (th, .inl (cI, 48, .inl (tcH (i49) ((ah (i49 + 1)) + dd) ah)))]) hP hD [0, 1, 2] [] rfl rfl (by decide) (by decide) hk1 hFc hP1 hD1
                generalize H1 = H at hP hS ⊢
                have hP : va_P (dC, dI) vwCl [(ql, .inr (3, [u0, u1, .ref tl, .ref th, u4])), (tl, .inl (cI, 48, .inl (tcL (i49) ((al (i49 + 1)) - dd) al))), (th, .inl (cI, 48, .inl (tcH (i49) ((ah (i49 + 1)) + dd) ah)))] H := hP
                have hD : va_D _ [(ql, .inr (3, [u0, u1, .ref tl, .ref th, u4])), (tl, .inl (cI, 48, .inl (tcL (i49) ((al (i49 + 1)) - dd) al))), (th, .inl (cI, 48, .inl (tcH (i49) ((ah (i49 + 1)) + dd) ah)))] := hD
                refine lv_iload_n hx hb dX3_narrowTrial_71 rfl (lv_at hl 0 rfl) ?_
                refine lv_bipush (v := 40) hx hb dX3_narrowTrial_72 (by decide) ?_
                refine lv_icmp_ge (tgt := 87) hx hb dX3_narrowTrial_74 (by decide) (fun c8 => ?_) (fun c8 => ?_)
                · skip
                  have hq2 : ¬ i49 < 40 := fun q => absurd (show nI 40 ≤ nI i49 from c8) (nI_ge q (by omega))
                  refine lv_iinc (v := dn i49) (lv' := [(2, .int (dn i49)), (0, .ref ql), (1, .int dd)]) hx hb dX3_narrowTrial_87 hl (k := 0) rfl (dn_pred i49) (by decide) rfl (fun ls hl => ?_)
                  refine lv_goto (tgt := 49) hx hb dX3_narrowTrial_90 (by decide) ?_
                  exact ih (tcL (i49) ((al (i49 + 1)) - dd) al) (tcH (i49) ((ah (i49 + 1)) + dd) ah) _ _ ls (by omega) (by rw [show 48 - i49 = (48 - (i49 + 1)) + 1 by omega, dnL, ← hal, show 47 - (48 - (i49 + 1)) = i49 by omega]; simp [dn1L, hq1, hq2]) (by rw [show 48 - i49 = (48 - (i49 + 1)) + 1 by omega, dnH, ← hah, show 47 - (48 - (i49 + 1)) = i49 by omega]; simp [dn1H, hq1, hq2]) (hP.sub [0, 1, 2] rfl) (hD.sub [0, 1, 2] (by decide) rfl) hS (lv_sub hl [0, 1, 2] rfl)
                · skip
                  have hq2 : i49 < 40 := (Nat.lt_or_ge i49 40).elim id (fun q => absurd (show nI 40 ≤ nI i49 from nI_le q (by omega)) c8)
                  refine lv_aload_n hx hb dX3_narrowTrial_77 rfl (lv_at hl 1 rfl) ?_
                  refine lv_iload_n hx hb dX3_narrowTrial_78 rfl (lv_at hl 0 rfl) ?_
                  refine lv_iload_n hx hb dX3_narrowTrial_79 rfl (lv_at hl 0 rfl) ?_
                  refine lv_bipush (v := 8) hx hb dX3_narrowTrial_80 (by decide) ?_
                  refine lv_iadd hx hb dX3_narrowTrial_82 ?_
                  refine lv_topi (fun v82 ev82 => ?_)
                  have ev82 : v82 = nI (i49 + 8) := by rw [ev82]; exact nI_add i49 8
                  subst ev82
                  refine lv_iload_n hx hb dX3_narrowTrial_83 rfl (lv_at hl 2 rfl) ?_
                  have hPc := hP.sub (ws' := [(ql, .inr (3, [u0, u1, .ref tl, .ref th, u4])), (tl, .inl (cI, 48, .inl (tcL (i49) ((al (i49 + 1)) - dd) al))), (th, .inl (cI, 48, .inl (tcH (i49) ((ah (i49 + 1)) + dd) ah)))]) [0, 1, 2] rfl
                  have hDc := hD.sub (ws' := [(ql, .inr (3, [u0, u1, .ref tl, .ref th, u4])), (tl, .inl (cI, 48, .inl (tcL (i49) ((al (i49 + 1)) - dd) al))), (th, .inl (cI, 48, .inl (tcH (i49) ((ah (i49 + 1)) + dd) ah)))]) [0, 1, 2] (by decide) rfl
                  have hKc := hK.sub (tys' := [(cI, .int)]) [0] rfl
                  have hFc := va_free (wc := [(ql, .inr (3, [u0, u1, .ref tl, .ref th, u4])), (tl, .inl (cI, 48, .inl (tcL (i49) ((al (i49 + 1)) - dd) al))), (th, .inl (cI, 48, .inl (tcH (i49) ((ah (i49 + 1)) + dd) ah)))]) hD hS hA [0, 1, 2] rfl
                  refine va_callv (va_runV (As := [.int (nI i49), .int (nI (i49 + 8)), .int dd]) (rest := []) ⟨hx, hb, hml, hown, hts⟩ (s_tryNeighbour l dC dI cI _ ql tl th (i49) (i49 + 8) u0 u1 u4 dd (tcL (i49) ((al (i49 + 1)) - dd) al) (tcH (i49) ((ah (i49 + 1)) + dd) ah) (by omega) (by omega)) (cwV 3 hts gX3_narrowTrial_X3_tryNeighbour rfl rfl rfl (by decide +kernel) ⟨Nat.le_of_ble_eq_true rfl, Nat.le_of_ble_eq_true rfl⟩) (pw_preV (va_recv hKc hPc (ci := 3) (q0 := 0) rfl rfl) hPc hKc hDc hN) rfl rfl hl.1 rfl (lv_room (Nat.le_of_ble_eq_true rfl)) dX3_narrowTrial_84 ⟨Nat.le_of_ble_eq_true rfl, Nat.le_of_ble_eq_true rfl⟩) hS (fun q _ h => hFc q h) hFc (fun u t H1 locs ht hvm hw hB hz1 hk1 hS => ?_)
                  obtain ⟨hP1, hK1, hD1⟩ := hB
                  rw [ht] at hP1
                  obtain ⟨hP, hD⟩ := va_join (wr := []) (w1 := [(ql, .inr (3, [u0, u1, .ref tl, .ref th, u4])), (tl, .inl (cI, 48, .inl (tcL (i49) (((tcL (i49) ((al (i49 + 1)) - dd) al) (i49 + 8)) - dd) (tcL (i49) ((al (i49 + 1)) - dd) al)))), (th, .inl (cI, 48, .inl (tcH (i49) (((tcH (i49) ((ah (i49 + 1)) + dd) ah) (i49 + 8)) + dd) (tcH (i49) ((ah (i49 + 1)) + dd) ah))))]) hP hD [0, 1, 2] [] rfl rfl (by decide) (by decide) hk1 hFc hP1 hD1
                  generalize H1 = H at hP hS ⊢
                  have hP : va_P (dC, dI) vwCl [(ql, .inr (3, [u0, u1, .ref tl, .ref th, u4])), (tl, .inl (cI, 48, .inl (tcL (i49) (((tcL (i49) ((al (i49 + 1)) - dd) al) (i49 + 8)) - dd) (tcL (i49) ((al (i49 + 1)) - dd) al)))), (th, .inl (cI, 48, .inl (tcH (i49) (((tcH (i49) ((ah (i49 + 1)) + dd) ah) (i49 + 8)) + dd) (tcH (i49) ((ah (i49 + 1)) + dd) ah))))] H := hP
                  have hD : va_D _ [(ql, .inr (3, [u0, u1, .ref tl, .ref th, u4])), (tl, .inl (cI, 48, .inl (tcL (i49) (((tcL (i49) ((al (i49 + 1)) - dd) al) (i49 + 8)) - dd) (tcL (i49) ((al (i49 + 1)) - dd) al)))), (th, .inl (cI, 48, .inl (tcH (i49) (((tcH (i49) ((ah (i49 + 1)) + dd) ah) (i49 + 8)) + dd) (tcH (i49) ((ah (i49 + 1)) + dd) ah))))] := hD
                  refine lv_iinc (v := dn i49) (lv' := [(2, .int (dn i49)), (0, .ref ql), (1, .int dd)]) hx hb dX3_narrowTrial_87 hl (k := 0) rfl (dn_pred i49) (by decide) rfl (fun ls hl => ?_)
                  refine lv_goto (tgt := 49) hx hb dX3_narrowTrial_90 (by decide) ?_
                  exact ih (tcL (i49) (((tcL (i49) ((al (i49 + 1)) - dd) al) (i49 + 8)) - dd) (tcL (i49) ((al (i49 + 1)) - dd) al)) (tcH (i49) (((tcH (i49) ((ah (i49 + 1)) + dd) ah) (i49 + 8)) + dd) (tcH (i49) ((ah (i49 + 1)) + dd) ah)) _ _ ls (by omega) (by rw [show 48 - i49 = (48 - (i49 + 1)) + 1 by omega, dnL, ← hal, show 47 - (48 - (i49 + 1)) = i49 by omega]; simp [dn1L, hq1, hq2]) (by rw [show 48 - i49 = (48 - (i49 + 1)) + 1 by omega, dnH, ← hah, show 47 - (48 - (i49 + 1)) = i49 by omega]; simp [dn1H, hq1, hq2]) (hP.sub [0, 1, 2] rfl) (hD.sub [0, 1, 2] (by decide) rfl) hS (lv_sub hl [0, 1, 2] rfl)
        exact loop49 48 al ah _ _ ls (by omega) (by rw [hal, hei2]; rfl) (by rw [hah, hei2]; rfl) hP hD hS (lv_sub hl [0, 1, 2] rfl)
      · skip
        have hlti2 : i2 < 48 := (Nat.lt_or_ge i2 48).elim id (fun q => absurd (show nI 48 ≤ nI i2 from nI_le q (by omega)) c1)
        refine lv_iload_n hx hb dX3_narrowTrial_8 rfl (lv_at hl 0 rfl) ?_
        refine lv_bipush (v := 8) hx hb dX3_narrowTrial_9 (by decide) ?_
        refine lv_irem hx hb dX3_narrowTrial_11 (by decide) ?_
        refine lv_topi (fun v11 ev11 => ?_)
        have ev11 : v11 = nI (i2 % 8) := by rw [ev11]; exact pk_rem (d := 8) (by omega) (by decide) (by decide)
        subst ev11
        refine lv_if_le (tgt := 24) hx hb dX3_narrowTrial_12 (by decide) (fun c10 => ?_) (fun c10 => ?_)
        · skip
          have hq1 : ¬ 0 < i2 % 8 := fun q => by have z := (nI_leI (a := i2 % 8) (b := 0) (by omega) (by omega)).mp c10; omega
          refine lv_iload_n hx hb dX3_narrowTrial_24 rfl (lv_at hl 0 rfl) ?_
          refine lv_bipush (v := 8) hx hb dX3_narrowTrial_25 (by decide) ?_
          refine lv_icmp_lt (tgt := 40) hx hb dX3_narrowTrial_27 (by decide) (fun c11 => ?_) (fun c11 => ?_)
          · skip
            have hq2 : ¬ 8 ≤ i2 := fun q => absurd (show nI i2 < nI 8 from c11) (nI_nlt q (by omega))
            refine lv_iinc (v := nI (i2 + 1)) (lv' := [(2, .int (nI (i2 + 1))), (0, .ref ql), (1, .int dd)]) hx hb dX3_narrowTrial_40 hl (k := 0) rfl (nI_1 i2) (by decide) rfl (fun ls hl => ?_)
            refine lv_goto (tgt := 2) hx hb dX3_narrowTrial_43 (by decide) ?_
            exact ihi2 (i2 + 1) al ah _ _ ls (by omega) (by omega) (by rw [hal, swL]; simp [sw1L, hq1, hq2]) (by rw [hah, swH]; simp [sw1H, hq1, hq2]) (hP.sub [0, 1, 2] rfl) (hD.sub [0, 1, 2] (by decide) rfl) hS (lv_sub hl [0, 1, 2] rfl)
          · skip
            have hq2 : 8 ≤ i2 := (Nat.lt_or_ge i2 8).elim (fun q => absurd (show nI i2 < nI 8 from nI_lt q (by omega)) c11) id
            refine lv_aload_n hx hb dX3_narrowTrial_30 rfl (lv_at hl 1 rfl) ?_
            refine lv_iload_n hx hb dX3_narrowTrial_31 rfl (lv_at hl 0 rfl) ?_
            refine lv_iload_n hx hb dX3_narrowTrial_32 rfl (lv_at hl 0 rfl) ?_
            refine lv_bipush (v := 8) hx hb dX3_narrowTrial_33 (by decide) ?_
            refine lv_isub hx hb dX3_narrowTrial_35 ?_
            refine lv_topi (fun v35 ev35 => ?_)
            have ev35 : v35 = nI (i2 - 8) := by rw [ev35]; exact pk_sub (b := 8) (by omega)
            subst ev35
            refine lv_iload_n hx hb dX3_narrowTrial_36 rfl (lv_at hl 2 rfl) ?_
            have hPc := hP.sub (ws' := [(ql, .inr (3, [u0, u1, .ref tl, .ref th, u4])), (tl, .inl (cI, 48, .inl al)), (th, .inl (cI, 48, .inl ah))]) [0, 1, 2] rfl
            have hDc := hD.sub (ws' := [(ql, .inr (3, [u0, u1, .ref tl, .ref th, u4])), (tl, .inl (cI, 48, .inl al)), (th, .inl (cI, 48, .inl ah))]) [0, 1, 2] (by decide) rfl
            have hKc := hK.sub (tys' := [(cI, .int)]) [0] rfl
            have hFc := va_free (wc := [(ql, .inr (3, [u0, u1, .ref tl, .ref th, u4])), (tl, .inl (cI, 48, .inl al)), (th, .inl (cI, 48, .inl ah))]) hD hS hA [0, 1, 2] rfl
            refine va_callv (va_runV (As := [.int (nI i2), .int (nI (i2 - 8)), .int dd]) (rest := []) ⟨hx, hb, hml, hown, hts⟩ (s_tryNeighbour l dC dI cI _ ql tl th (i2) (i2 - 8) u0 u1 u4 dd al ah (by omega) (by omega)) (cwV 3 hts gX3_narrowTrial_X3_tryNeighbour rfl rfl rfl (by decide +kernel) ⟨Nat.le_of_ble_eq_true rfl, Nat.le_of_ble_eq_true rfl⟩) (pw_preV (va_recv hKc hPc (ci := 3) (q0 := 0) rfl rfl) hPc hKc hDc hN) rfl rfl hl.1 rfl (lv_room (Nat.le_of_ble_eq_true rfl)) dX3_narrowTrial_37 ⟨Nat.le_of_ble_eq_true rfl, Nat.le_of_ble_eq_true rfl⟩) hS (fun q _ h => hFc q h) hFc (fun u t H1 locs ht hvm hw hB hz1 hk1 hS => ?_)
            obtain ⟨hP1, hK1, hD1⟩ := hB
            rw [ht] at hP1
            obtain ⟨hP, hD⟩ := va_join (wr := []) (w1 := [(ql, .inr (3, [u0, u1, .ref tl, .ref th, u4])), (tl, .inl (cI, 48, .inl (tcL (i2) ((al (i2 - 8)) - dd) al))), (th, .inl (cI, 48, .inl (tcH (i2) ((ah (i2 - 8)) + dd) ah)))]) hP hD [0, 1, 2] [] rfl rfl (by decide) (by decide) hk1 hFc hP1 hD1
            generalize H1 = H at hP hS ⊢
            have hP : va_P (dC, dI) vwCl [(ql, .inr (3, [u0, u1, .ref tl, .ref th, u4])), (tl, .inl (cI, 48, .inl (tcL (i2) ((al (i2 - 8)) - dd) al))), (th, .inl (cI, 48, .inl (tcH (i2) ((ah (i2 - 8)) + dd) ah)))] H := hP
            have hD : va_D _ [(ql, .inr (3, [u0, u1, .ref tl, .ref th, u4])), (tl, .inl (cI, 48, .inl (tcL (i2) ((al (i2 - 8)) - dd) al))), (th, .inl (cI, 48, .inl (tcH (i2) ((ah (i2 - 8)) + dd) ah)))] := hD
            refine lv_iinc (v := nI (i2 + 1)) (lv' := [(2, .int (nI (i2 + 1))), (0, .ref ql), (1, .int dd)]) hx hb dX3_narrowTrial_40 hl (k := 0) rfl (nI_1 i2) (by decide) rfl (fun ls hl => ?_)
            refine lv_goto (tgt := 2) hx hb dX3_narrowTrial_43 (by decide) ?_
            exact ihi2 (i2 + 1) (tcL (i2) ((al (i2 - 8)) - dd) al) (tcH (i2) ((ah (i2 - 8)) + dd) ah) _ _ ls (by omega) (by omega) (by rw [hal, swL]; simp [sw1L, hq1, hq2]) (by rw [hah, swH]; simp [sw1H, hq1, hq2]) (hP.sub [0, 1, 2] rfl) (hD.sub [0, 1, 2] (by decide) rfl) hS (lv_sub hl [0, 1, 2] rfl)
        · skip
          have hq1 : 0 < i2 % 8 := Nat.pos_of_ne_zero fun q => c10 (by rw [q]; decide)
          refine lv_aload_n hx hb dX3_narrowTrial_15 rfl (lv_at hl 1 rfl) ?_
          refine lv_iload_n hx hb dX3_narrowTrial_16 rfl (lv_at hl 0 rfl) ?_
          refine lv_iload_n hx hb dX3_narrowTrial_17 rfl (lv_at hl 0 rfl) ?_
          refine lv_iconst (v := 1) hx hb dX3_narrowTrial_18 (by decide) ?_
          refine lv_isub hx hb dX3_narrowTrial_19 ?_
          refine lv_topi (fun v19 ev19 => ?_)
          have ev19 : v19 = nI (i2 - 1) := by rw [ev19]; exact pk_sub (b := 1) (by omega)
          subst ev19
          refine lv_iload_n hx hb dX3_narrowTrial_20 rfl (lv_at hl 2 rfl) ?_
          have hPc := hP.sub (ws' := [(ql, .inr (3, [u0, u1, .ref tl, .ref th, u4])), (tl, .inl (cI, 48, .inl al)), (th, .inl (cI, 48, .inl ah))]) [0, 1, 2] rfl
          have hDc := hD.sub (ws' := [(ql, .inr (3, [u0, u1, .ref tl, .ref th, u4])), (tl, .inl (cI, 48, .inl al)), (th, .inl (cI, 48, .inl ah))]) [0, 1, 2] (by decide) rfl
          have hKc := hK.sub (tys' := [(cI, .int)]) [0] rfl
          have hFc := va_free (wc := [(ql, .inr (3, [u0, u1, .ref tl, .ref th, u4])), (tl, .inl (cI, 48, .inl al)), (th, .inl (cI, 48, .inl ah))]) hD hS hA [0, 1, 2] rfl
          refine va_callv (va_runV (As := [.int (nI i2), .int (nI (i2 - 1)), .int dd]) (rest := []) ⟨hx, hb, hml, hown, hts⟩ (s_tryNeighbour l dC dI cI _ ql tl th (i2) (i2 - 1) u0 u1 u4 dd al ah (by omega) (by omega)) (cwV 3 hts gX3_narrowTrial_X3_tryNeighbour rfl rfl rfl (by decide +kernel) ⟨Nat.le_of_ble_eq_true rfl, Nat.le_of_ble_eq_true rfl⟩) (pw_preV (va_recv hKc hPc (ci := 3) (q0 := 0) rfl rfl) hPc hKc hDc hN) rfl rfl hl.1 rfl (lv_room (Nat.le_of_ble_eq_true rfl)) dX3_narrowTrial_21 ⟨Nat.le_of_ble_eq_true rfl, Nat.le_of_ble_eq_true rfl⟩) hS (fun q _ h => hFc q h) hFc (fun u t H1 locs ht hvm hw hB hz1 hk1 hS => ?_)
          obtain ⟨hP1, hK1, hD1⟩ := hB
          rw [ht] at hP1
          obtain ⟨hP, hD⟩ := va_join (wr := []) (w1 := [(ql, .inr (3, [u0, u1, .ref tl, .ref th, u4])), (tl, .inl (cI, 48, .inl (tcL (i2) ((al (i2 - 1)) - dd) al))), (th, .inl (cI, 48, .inl (tcH (i2) ((ah (i2 - 1)) + dd) ah)))]) hP hD [0, 1, 2] [] rfl rfl (by decide) (by decide) hk1 hFc hP1 hD1
          generalize H1 = H at hP hS ⊢
          have hP : va_P (dC, dI) vwCl [(ql, .inr (3, [u0, u1, .ref tl, .ref th, u4])), (tl, .inl (cI, 48, .inl (tcL (i2) ((al (i2 - 1)) - dd) al))), (th, .inl (cI, 48, .inl (tcH (i2) ((ah (i2 - 1)) + dd) ah)))] H := hP
          have hD : va_D _ [(ql, .inr (3, [u0, u1, .ref tl, .ref th, u4])), (tl, .inl (cI, 48, .inl (tcL (i2) ((al (i2 - 1)) - dd) al))), (th, .inl (cI, 48, .inl (tcH (i2) ((ah (i2 - 1)) + dd) ah)))] := hD
          refine lv_iload_n hx hb dX3_narrowTrial_24 rfl (lv_at hl 0 rfl) ?_
          refine lv_bipush (v := 8) hx hb dX3_narrowTrial_25 (by decide) ?_
          refine lv_icmp_lt (tgt := 40) hx hb dX3_narrowTrial_27 (by decide) (fun c14 => ?_) (fun c14 => ?_)
          · skip
            have hq2 : ¬ 8 ≤ i2 := fun q => absurd (show nI i2 < nI 8 from c14) (nI_nlt q (by omega))
            refine lv_iinc (v := nI (i2 + 1)) (lv' := [(2, .int (nI (i2 + 1))), (0, .ref ql), (1, .int dd)]) hx hb dX3_narrowTrial_40 hl (k := 0) rfl (nI_1 i2) (by decide) rfl (fun ls hl => ?_)
            refine lv_goto (tgt := 2) hx hb dX3_narrowTrial_43 (by decide) ?_
            exact ihi2 (i2 + 1) (tcL (i2) ((al (i2 - 1)) - dd) al) (tcH (i2) ((ah (i2 - 1)) + dd) ah) _ _ ls (by omega) (by omega) (by rw [hal, swL]; simp [sw1L, hq1, hq2]) (by rw [hah, swH]; simp [sw1H, hq1, hq2]) (hP.sub [0, 1, 2] rfl) (hD.sub [0, 1, 2] (by decide) rfl) hS (lv_sub hl [0, 1, 2] rfl)
          · skip
            have hq2 : 8 ≤ i2 := (Nat.lt_or_ge i2 8).elim (fun q => absurd (show nI i2 < nI 8 from nI_lt q (by omega)) c14) id
            refine lv_aload_n hx hb dX3_narrowTrial_30 rfl (lv_at hl 1 rfl) ?_
            refine lv_iload_n hx hb dX3_narrowTrial_31 rfl (lv_at hl 0 rfl) ?_
            refine lv_iload_n hx hb dX3_narrowTrial_32 rfl (lv_at hl 0 rfl) ?_
            refine lv_bipush (v := 8) hx hb dX3_narrowTrial_33 (by decide) ?_
            refine lv_isub hx hb dX3_narrowTrial_35 ?_
            refine lv_topi (fun v35 ev35 => ?_)
            have ev35 : v35 = nI (i2 - 8) := by rw [ev35]; exact pk_sub (b := 8) (by omega)
            subst ev35
            refine lv_iload_n hx hb dX3_narrowTrial_36 rfl (lv_at hl 2 rfl) ?_
            have hPc := hP.sub (ws' := [(ql, .inr (3, [u0, u1, .ref tl, .ref th, u4])), (tl, .inl (cI, 48, .inl (tcL (i2) ((al (i2 - 1)) - dd) al))), (th, .inl (cI, 48, .inl (tcH (i2) ((ah (i2 - 1)) + dd) ah)))]) [0, 1, 2] rfl
            have hDc := hD.sub (ws' := [(ql, .inr (3, [u0, u1, .ref tl, .ref th, u4])), (tl, .inl (cI, 48, .inl (tcL (i2) ((al (i2 - 1)) - dd) al))), (th, .inl (cI, 48, .inl (tcH (i2) ((ah (i2 - 1)) + dd) ah)))]) [0, 1, 2] (by decide) rfl
            have hKc := hK.sub (tys' := [(cI, .int)]) [0] rfl
            have hFc := va_free (wc := [(ql, .inr (3, [u0, u1, .ref tl, .ref th, u4])), (tl, .inl (cI, 48, .inl (tcL (i2) ((al (i2 - 1)) - dd) al))), (th, .inl (cI, 48, .inl (tcH (i2) ((ah (i2 - 1)) + dd) ah)))]) hD hS hA [0, 1, 2] rfl
            refine va_callv (va_runV (As := [.int (nI i2), .int (nI (i2 - 8)), .int dd]) (rest := []) ⟨hx, hb, hml, hown, hts⟩ (s_tryNeighbour l dC dI cI _ ql tl th (i2) (i2 - 8) u0 u1 u4 dd (tcL (i2) ((al (i2 - 1)) - dd) al) (tcH (i2) ((ah (i2 - 1)) + dd) ah) (by omega) (by omega)) (cwV 3 hts gX3_narrowTrial_X3_tryNeighbour rfl rfl rfl (by decide +kernel) ⟨Nat.le_of_ble_eq_true rfl, Nat.le_of_ble_eq_true rfl⟩) (pw_preV (va_recv hKc hPc (ci := 3) (q0 := 0) rfl rfl) hPc hKc hDc hN) rfl rfl hl.1 rfl (lv_room (Nat.le_of_ble_eq_true rfl)) dX3_narrowTrial_37 ⟨Nat.le_of_ble_eq_true rfl, Nat.le_of_ble_eq_true rfl⟩) hS (fun q _ h => hFc q h) hFc (fun u t H1 locs ht hvm hw hB hz1 hk1 hS => ?_)
            obtain ⟨hP1, hK1, hD1⟩ := hB
            rw [ht] at hP1
            obtain ⟨hP, hD⟩ := va_join (wr := []) (w1 := [(ql, .inr (3, [u0, u1, .ref tl, .ref th, u4])), (tl, .inl (cI, 48, .inl (tcL (i2) (((tcL (i2) ((al (i2 - 1)) - dd) al) (i2 - 8)) - dd) (tcL (i2) ((al (i2 - 1)) - dd) al)))), (th, .inl (cI, 48, .inl (tcH (i2) (((tcH (i2) ((ah (i2 - 1)) + dd) ah) (i2 - 8)) + dd) (tcH (i2) ((ah (i2 - 1)) + dd) ah))))]) hP hD [0, 1, 2] [] rfl rfl (by decide) (by decide) hk1 hFc hP1 hD1
            generalize H1 = H at hP hS ⊢
            have hP : va_P (dC, dI) vwCl [(ql, .inr (3, [u0, u1, .ref tl, .ref th, u4])), (tl, .inl (cI, 48, .inl (tcL (i2) (((tcL (i2) ((al (i2 - 1)) - dd) al) (i2 - 8)) - dd) (tcL (i2) ((al (i2 - 1)) - dd) al)))), (th, .inl (cI, 48, .inl (tcH (i2) (((tcH (i2) ((ah (i2 - 1)) + dd) ah) (i2 - 8)) + dd) (tcH (i2) ((ah (i2 - 1)) + dd) ah))))] H := hP
            have hD : va_D _ [(ql, .inr (3, [u0, u1, .ref tl, .ref th, u4])), (tl, .inl (cI, 48, .inl (tcL (i2) (((tcL (i2) ((al (i2 - 1)) - dd) al) (i2 - 8)) - dd) (tcL (i2) ((al (i2 - 1)) - dd) al)))), (th, .inl (cI, 48, .inl (tcH (i2) (((tcH (i2) ((ah (i2 - 1)) + dd) ah) (i2 - 8)) + dd) (tcH (i2) ((ah (i2 - 1)) + dd) ah))))] := hD
            refine lv_iinc (v := nI (i2 + 1)) (lv' := [(2, .int (nI (i2 + 1))), (0, .ref ql), (1, .int dd)]) hx hb dX3_narrowTrial_40 hl (k := 0) rfl (nI_1 i2) (by decide) rfl (fun ls hl => ?_)
            refine lv_goto (tgt := 2) hx hb dX3_narrowTrial_43 (by decide) ?_
            exact ihi2 (i2 + 1) (tcL (i2) (((tcL (i2) ((al (i2 - 1)) - dd) al) (i2 - 8)) - dd) (tcL (i2) ((al (i2 - 1)) - dd) al)) (tcH (i2) (((tcH (i2) ((ah (i2 - 1)) + dd) ah) (i2 - 8)) + dd) (tcH (i2) ((ah (i2 - 1)) + dd) ah)) _ _ ls (by omega) (by omega) (by rw [hal, swL]; simp [sw1L, hq1, hq2]) (by rw [hah, swH]; simp [sw1H, hq1, hq2]) (hP.sub [0, 1, 2] rfl) (hD.sub [0, 1, 2] (by decide) rfl) hS (lv_sub hl [0, 1, 2] rfl)
  exact loop2 (48 + 1 - 0) 0 gl gh _ _ ls (by omega) (by omega) rfl rfl hP hD hS (lv_sub hl [0, 1, 2] rfl)
set_option maxHeartbeats 4000000 in
set_option maxRecDepth 100000 in
theorem s_endTrial (l : Launch) (dC : Nat → ClassId) (dI : Nat → Nat → Nat) (cI : ClassId) (sz : Nat) (ql : Nat) (lw : Nat) (hg : Nat) (tl : Nat) (th : Nat) (law : Int32) (dd : Int32) (fl : Nat → Int32) (fh : Nat → Int32) (gl : Nat → Int32) (gh : Nat → Int32)  : Met l yX3_endTrial wsX3_endTrial ({ frames := 4, cells := 0, slots := 0, locals := 120 }) (pw (dC, dI) [(cI, .int)] [(ql, .inr (3, [.ref lw, .ref hg, .ref tl, .ref th, .int law])), (lw, .inl (cI, 48, .inl fl)), (hg, .inl (cI, 48, .inl fh)), (tl, .inl (cI, 48, .inl gl)), (th, .inl (cI, 48, .inl gh))] sz [.ref ql, .int dd]) (va_Qi (fun r (u : (Nat → Int32) × (Nat → Int32) × (Int32) × (Nat → Int32) × (Nat → Int32)) => ((u.2.2.2.1) = dnL dd (swL dd gl 48) 48 ∧ (u.2.2.2.2) = dnH dd (swH dd gh 48) 48) ∧ ((r = -3 ∧ (∃ j, j < 48 ∧ (u.2.2.2.2) j < (u.2.2.2.1) j) ∧ (u.1) = fl ∧ (u.2.1) = fh ∧ (u.2.2.1) = law) ∨ (r = nI (fa_cnt (chg fl fh (u.2.2.2.1) (u.2.2.2.2)) 48) ∧ (∀ j, j < 48 → ¬ (u.2.2.2.2) j < (u.2.2.2.1) j) ∧ (u.1) = (u.2.2.2.1) ∧ (u.2.1) = (u.2.2.2.2) ∧ (u.2.2.1) = dd))) (fun u t => bw (dC, dI) [(cI, .int)] (va_A [(ql, .inr (3, [.ref lw, .ref hg, .ref tl, .ref th, .int law])), (lw, .inl (cI, 48, .inl fl)), (hg, .inl (cI, 48, .inl fh)), (tl, .inl (cI, 48, .inl gl)), (th, .inl (cI, 48, .inl gh))] sz) [(ql, .inr (3, [.ref lw, .ref hg, .ref tl, .ref th, .int (u.2.2.1)])), (lw, .inl (cI, 48, .inl (u.1))), (hg, .inl (cI, 48, .inl (u.2.1))), (tl, .inl (cI, 48, .inl (u.2.2.2.1))), (th, .inl (cI, 48, .inl (u.2.2.2.2)))] t) (va_A [(ql, .inr (3, [.ref lw, .ref hg, .ref tl, .ref th, .int law])), (lw, .inl (cI, 48, .inl fl)), (hg, .inl (cI, 48, .inl fh)), (tl, .inl (cI, 48, .inl gl)), (th, .inl (cI, 48, .inl gh))] sz)) 0 0 (va_A [(ql, .inr (3, [.ref lw, .ref hg, .ref tl, .ref th, .int law])), (lw, .inl (cI, 48, .inl fl)), (hg, .inl (cI, 48, .inl fh)), (tl, .inl (cI, 48, .inl gl)), (th, .inl (cI, 48, .inl gh))] sz) := by
  refine pw_met (cc := cX3_endTrial) (maxL := 4) (ret := (some .int)) (by decide) rfl (Nat.le_of_ble_eq_true rfl) ?_
  intro p e s m below meth c0 hx hb hr hml hown hlocks hnm hts hP hK hD hN hsz hA hS ls hl
  subst hsz
  have hl : lv_has ls 4 [(0, .ref ql), (1, .int dd)] := hl
  have hiX3 : ∀ w ∈ wsX30, w ∈ wsX3_endTrial := fun _ h => List.mem_cons_of_mem _ (List.mem_append_right _ (h))
  generalize hQ : MQ _ _ _ _ _ _ _ = Q
  refine lv_aload_n hx hb dX3_endTrial_0 rfl (lv_at hl 0 rfl) ?_
  refine lv_iload_n hx hb dX3_endTrial_1 rfl (lv_at hl 1 rfl) ?_
  have hPc := hP.sub (ws' := [(ql, .inr (3, [.ref lw, .ref hg, .ref tl, .ref th, .int law])), (tl, .inl (cI, 48, .inl gl)), (th, .inl (cI, 48, .inl gh))]) [0, 3, 4] rfl
  have hDc := hD.sub (ws' := [(ql, .inr (3, [.ref lw, .ref hg, .ref tl, .ref th, .int law])), (tl, .inl (cI, 48, .inl gl)), (th, .inl (cI, 48, .inl gh))]) [0, 3, 4] (by decide) rfl
  have hKc := hK.sub (tys' := [(cI, .int)]) [0] rfl
  have hFc := va_free (wc := [(ql, .inr (3, [.ref lw, .ref hg, .ref tl, .ref th, .int law])), (tl, .inl (cI, 48, .inl gl)), (th, .inl (cI, 48, .inl gh))]) hD hS hA [0, 3, 4] rfl
  refine va_callv (va_runV (As := [.int dd]) (rest := []) ⟨hx, hb, hml, hown, hts⟩ (s_narrowTrial l dC dI cI _ ql tl th (.ref lw) (.ref hg) (.int law) dd gl gh ) (cwV 1 hts gX3_endTrial_X3_narrowTrial rfl rfl rfl (by decide +kernel) ⟨Nat.le_of_ble_eq_true rfl, Nat.le_of_ble_eq_true rfl⟩) (pw_preV (va_recv hKc hPc (ci := 3) (q0 := 0) rfl rfl) hPc hKc hDc hN) rfl rfl hl.1 rfl (lv_room (Nat.le_of_ble_eq_true rfl)) dX3_endTrial_2 ⟨Nat.le_of_ble_eq_true rfl, Nat.le_of_ble_eq_true rfl⟩) hS (fun q _ h => hFc q h) hFc (fun u t H1 locs ht hvm hw hB hz1 hk1 hS => ?_)
  obtain ⟨hP1, hK1, hD1⟩ := hB
  rw [ht] at hP1
  obtain ⟨hP, hD⟩ := va_join (wr := [(lw, .inl (cI, 48, .inl fl)), (hg, .inl (cI, 48, .inl fh))]) (w1 := [(ql, .inr (3, [.ref lw, .ref hg, .ref tl, .ref th, .int law])), (tl, .inl (cI, 48, .inl (dnL dd (swL dd gl 48) 48))), (th, .inl (cI, 48, .inl (dnH dd (swH dd gh 48) 48)))]) hP hD [0, 3, 4] [1, 2] rfl rfl (by decide) (by decide) hk1 hFc hP1 hD1
  generalize H1 = H at hP hS ⊢
  have hP : va_P (dC, dI) vwCl [(lw, .inl (cI, 48, .inl fl)), (hg, .inl (cI, 48, .inl fh)), (ql, .inr (3, [.ref lw, .ref hg, .ref tl, .ref th, .int law])), (tl, .inl (cI, 48, .inl (dnL dd (swL dd gl 48) 48))), (th, .inl (cI, 48, .inl (dnH dd (swH dd gh 48) 48)))] H := hP
  have hD : va_D _ [(lw, .inl (cI, 48, .inl fl)), (hg, .inl (cI, 48, .inl fh)), (ql, .inr (3, [.ref lw, .ref hg, .ref tl, .ref th, .int law])), (tl, .inl (cI, 48, .inl (dnL dd (swL dd gl 48) 48))), (th, .inl (cI, 48, .inl (dnH dd (swH dd gh 48) 48)))] := hD
  obtain ⟨ta, eta⟩ : ∃ ta, ta = dnL dd (swL dd gl 48) 48 := ⟨_, rfl⟩
  obtain ⟨tb, etb⟩ : ∃ tb, tb = dnH dd (swH dd gh 48) 48 := ⟨_, rfl⟩
  rw [← eta, ← etb] at hP hD
  have hP : va_P (dC, dI) vwCl [(lw, .inl (cI, 48, .inl fl)), (hg, .inl (cI, 48, .inl fh)), (ql, .inr (3, [.ref lw, .ref hg, .ref tl, .ref th, .int law])), (tl, .inl (cI, 48, .inl ta)), (th, .inl (cI, 48, .inl tb))] H := hP
  have hD : va_D _ [(lw, .inl (cI, 48, .inl fl)), (hg, .inl (cI, 48, .inl fh)), (ql, .inr (3, [.ref lw, .ref hg, .ref tl, .ref th, .int law])), (tl, .inl (cI, 48, .inl ta)), (th, .inl (cI, 48, .inl tb))] := hD
  refine lv_iconst (v := 0) hx hb dX3_endTrial_5 (by decide) ?_
  refine lv_istore_n (lv' := [(2, .int 0), (0, .ref ql), (1, .int dd)]) hx hb dX3_endTrial_6 rfl hl (by decide) rfl (fun ls hl => ?_)
  refine lv_iconst (v := 0) hx hb dX3_endTrial_7 (by decide) ?_
  refine lv_istore_n (lv' := [(3, .int 0), (2, .int 0), (0, .ref ql), (1, .int dd)]) hx hb dX3_endTrial_8 rfl hl (by decide) rfl (fun ls hl => ?_)
  have loop9 : ∀ (ni9 i9 : Nat) (H : Heap) (locs : List Loc) (ls : Array Slot), i9 ≤ 48 → 48 + 1 ≤ i9 + ni9 → (∀ j, j < i9 → ¬ tb j < ta j) → va_P (dC, dI) vwCl [(lw, .inl (cI, 48, .inl fl)), (hg, .inl (cI, 48, .inl fh)), (ql, .inr (3, [.ref lw, .ref hg, .ref tl, .ref th, .int law])), (tl, .inl (cI, 48, .inl ta)), (th, .inl (cI, 48, .inl tb))] H → va_D (va_A [(ql, .inr (3, [.ref lw, .ref hg, .ref tl, .ref th, .int law])), (lw, .inl (cI, 48, .inl fl)), (hg, .inl (cI, 48, .inl fh)), (tl, .inl (cI, 48, .inl gl)), (th, .inl (cI, 48, .inl gh))] s.heap.size) [(lw, .inl (cI, 48, .inl fl)), (hg, .inl (cI, 48, .inl fh)), (ql, .inr (3, [.ref lw, .ref hg, .ref tl, .ref th, .int law])), (tl, .inl (cI, 48, .inl ta)), (th, .inl (cI, 48, .inl tb))] → va_S (va_A [(ql, .inr (3, [.ref lw, .ref hg, .ref tl, .ref th, .int law])), (lw, .inl (cI, 48, .inl fl)), (hg, .inl (cI, 48, .inl fh)), (tl, .inl (cI, 48, .inl gl)), (th, .inl (cI, 48, .inl gh))] s.heap.size) s.heap H locs → lv_has ls 4 [(3, .int (nI i9)), (2, .int (nI (fa_cnt (chg fl fh ta tb) i9))), (0, .ref ql), (1, .int dd)] → W p l e ({ frames := 4, cells := 0, slots := 0, locals := 120 } : Room) s m ([.ref ql, .int dd] : List Value).toArray below meth c0 H locs 0 0 Q (F0 m 9 ls []) := by
    intro ni9
    induction ni9 with
    | zero =>
      intro i9  H locs ls h1 h2
      exact absurd h2 (by omega)
    | succ ni9 ihi9 =>
      intro i9  H locs ls hlei9 hni9 hall hP hD hS hl
      refine lv_iload_n hx hb dX3_endTrial_9 rfl (lv_at hl 0 rfl) ?_
      refine lv_bipush (v := 48) hx hb dX3_endTrial_10 (by decide) ?_
      refine lv_icmp_ge (tgt := 72) hx hb dX3_endTrial_12 (by decide) (fun c2 => ?_) (fun c2 => ?_)
      · skip
        have hei9 : i9 = 48 := (Nat.lt_or_ge i9 48).elim (fun q => absurd c2 (show ¬ nI 48 ≤ nI i9 from nI_ge q (by omega))) (fun q => by omega)
        refine lv_aload_n hx hb dX3_endTrial_72 rfl (lv_at hl 2 rfl) ?_
        refine va_get (D := (dC, dI)) (ci := 3) (v := .ref tl) (C := RX3) (T := TX3) (N := 5) hx hb hts hiX3 hown hK hP 2 rfl rfl 2 (by decide) (hts (.fieldLink RX3 18 "TributePitches$Lode" "triedLows" "[I") (List.mem_of_getElem? (i := 1) rfl)) (fun _ h9 => h9) rfl dX3_endTrial_73 ?_
        refine lv_iconst (v := 0) hx hb dX3_endTrial_76 (by decide) ?_
        refine lv_aload_n hx hb dX3_endTrial_77 rfl (lv_at hl 2 rfl) ?_
        refine va_get (D := (dC, dI)) (ci := 3) (v := .ref lw) (C := RX3) (T := TX3) (N := 5) hx hb hts hiX3 hown hK hP 2 rfl rfl 0 (by decide) (hts (.fieldLink RX3 11 "TributePitches$Lode" "lows" "[I") (List.mem_of_getElem? (i := 3) rfl)) (fun _ h9 => h9) rfl dX3_endTrial_78 ?_
        refine lv_iconst (v := 0) hx hb dX3_endTrial_81 (by decide) ?_
        refine lv_bipush (v := 48) hx hb dX3_endTrial_82 (by decide) ?_
        refine va_copyi hx hb (hml.trans hl.1.symm) hown (hts (.methodLink RX3 38 arraycopyName) (List.mem_of_getElem? (i := 5) rfl)) (hts (.native arraycopyName) (List.mem_of_getElem? (i := 6) rfl)) (hts (.static arraycopyName) (List.mem_of_getElem? (i := 7) rfl)) (hts (.initialized "java/lang/System") (List.mem_of_getElem? (i := 8) rfl)) hK hP hD hS 3 0 0 0 rfl rfl rfl rfl rfl (by decide) (by decide) (by decide) (by decide) (by decide) (fun _ _ => rfl) (Nat.le_of_ble_eq_true rfl) (Nat.le_of_ble_eq_true rfl) dX3_endTrial_84 (fun H locs hP hD hS => ?_)
        have hP : va_P (dC, dI) vwCl [(lw, .inl (cI, 48, .inl (va_cpy ta fl 0 0 48))), (hg, .inl (cI, 48, .inl fh)), (ql, .inr (3, [.ref lw, .ref hg, .ref tl, .ref th, .int law])), (tl, .inl (cI, 48, .inl ta)), (th, .inl (cI, 48, .inl tb))] H := hP
        have hD : va_D _ [(lw, .inl (cI, 48, .inl (va_cpy ta fl 0 0 48))), (hg, .inl (cI, 48, .inl fh)), (ql, .inr (3, [.ref lw, .ref hg, .ref tl, .ref th, .int law])), (tl, .inl (cI, 48, .inl ta)), (th, .inl (cI, 48, .inl tb))] := hD
        have hP := va_P_cg hP 0 ta rfl (cpy_all _ _)
        have hD := va_D_cg hD 0 ta rfl
        have hP : va_P (dC, dI) vwCl [(lw, .inl (cI, 48, .inl ta)), (hg, .inl (cI, 48, .inl fh)), (ql, .inr (3, [.ref lw, .ref hg, .ref tl, .ref th, .int law])), (tl, .inl (cI, 48, .inl ta)), (th, .inl (cI, 48, .inl tb))] H := hP
        have hD : va_D _ [(lw, .inl (cI, 48, .inl ta)), (hg, .inl (cI, 48, .inl fh)), (ql, .inr (3, [.ref lw, .ref hg, .ref tl, .ref th, .int law])), (tl, .inl (cI, 48, .inl ta)), (th, .inl (cI, 48, .inl tb))] := hD
        refine lv_aload_n hx hb dX3_endTrial_87 rfl (lv_at hl 2 rfl) ?_
        refine va_get (D := (dC, dI)) (ci := 3) (v := .ref th) (C := RX3) (T := TX3) (N := 5) hx hb hts hiX3 hown hK hP 2 rfl rfl 3 (by decide) (hts (.fieldLink RX3 21 "TributePitches$Lode" "triedHighs" "[I") (List.mem_of_getElem? (i := 2) rfl)) (fun _ h9 => h9) rfl dX3_endTrial_88 ?_
        refine lv_iconst (v := 0) hx hb dX3_endTrial_91 (by decide) ?_
        refine lv_aload_n hx hb dX3_endTrial_92 rfl (lv_at hl 2 rfl) ?_
        refine va_get (D := (dC, dI)) (ci := 3) (v := .ref hg) (C := RX3) (T := TX3) (N := 5) hx hb hts hiX3 hown hK hP 2 rfl rfl 1 (by decide) (hts (.fieldLink RX3 15 "TributePitches$Lode" "highs" "[I") (List.mem_of_getElem? (i := 4) rfl)) (fun _ h9 => h9) rfl dX3_endTrial_93 ?_
        refine lv_iconst (v := 0) hx hb dX3_endTrial_96 (by decide) ?_
        refine lv_bipush (v := 48) hx hb dX3_endTrial_97 (by decide) ?_
        refine va_copyi hx hb (hml.trans hl.1.symm) hown (hts (.methodLink RX3 38 arraycopyName) (List.mem_of_getElem? (i := 5) rfl)) (hts (.native arraycopyName) (List.mem_of_getElem? (i := 6) rfl)) (hts (.static arraycopyName) (List.mem_of_getElem? (i := 7) rfl)) (hts (.initialized "java/lang/System") (List.mem_of_getElem? (i := 8) rfl)) hK hP hD hS 4 1 0 0 rfl rfl rfl rfl rfl (by decide) (by decide) (by decide) (by decide) (by decide) (fun _ _ => rfl) (Nat.le_of_ble_eq_true rfl) (Nat.le_of_ble_eq_true rfl) dX3_endTrial_99 (fun H locs hP hD hS => ?_)
        have hP : va_P (dC, dI) vwCl [(lw, .inl (cI, 48, .inl ta)), (hg, .inl (cI, 48, .inl (va_cpy tb fh 0 0 48))), (ql, .inr (3, [.ref lw, .ref hg, .ref tl, .ref th, .int law])), (tl, .inl (cI, 48, .inl ta)), (th, .inl (cI, 48, .inl tb))] H := hP
        have hD : va_D _ [(lw, .inl (cI, 48, .inl ta)), (hg, .inl (cI, 48, .inl (va_cpy tb fh 0 0 48))), (ql, .inr (3, [.ref lw, .ref hg, .ref tl, .ref th, .int law])), (tl, .inl (cI, 48, .inl ta)), (th, .inl (cI, 48, .inl tb))] := hD
        have hP := va_P_cg hP 1 tb rfl (cpy_all _ _)
        have hD := va_D_cg hD 1 tb rfl
        have hP : va_P (dC, dI) vwCl [(lw, .inl (cI, 48, .inl ta)), (hg, .inl (cI, 48, .inl tb)), (ql, .inr (3, [.ref lw, .ref hg, .ref tl, .ref th, .int law])), (tl, .inl (cI, 48, .inl ta)), (th, .inl (cI, 48, .inl tb))] H := hP
        have hD : va_D _ [(lw, .inl (cI, 48, .inl ta)), (hg, .inl (cI, 48, .inl tb)), (ql, .inr (3, [.ref lw, .ref hg, .ref tl, .ref th, .int law])), (tl, .inl (cI, 48, .inl ta)), (th, .inl (cI, 48, .inl tb))] := hD
        refine lv_aload_n hx hb dX3_endTrial_102 rfl (lv_at hl 2 rfl) ?_
        refine lv_iload_n hx hb dX3_endTrial_103 rfl (lv_at hl 3 rfl) ?_
        refine va_put (D := (dC, dI)) (ci := 3) (v := .int dd) (ty := .int) (C := RX3) (T := TX3) (N := 5) hx hb hts hiX3 tyX3 tyX3_ok nmX3 hown hK hP hD hS 2 rfl rfl 4 (by decide) (hts (.fieldLink RX3 24 "TributePitches$Lode" "law" "I") (List.mem_of_getElem? (i := 9) rfl)) (fun _ h9 => h9) rfl (by decide +kernel) rfl rfl (Nat.le_of_ble_eq_true rfl) dX3_endTrial_104 (fun H locs hP hD hS => ?_)
        have hP : va_P (dC, dI) vwCl [(lw, .inl (cI, 48, .inl ta)), (hg, .inl (cI, 48, .inl tb)), (ql, .inr (3, [.ref lw, .ref hg, .ref tl, .ref th, .int dd])), (tl, .inl (cI, 48, .inl ta)), (th, .inl (cI, 48, .inl tb))] H := hP
        have hD : va_D _ [(lw, .inl (cI, 48, .inl ta)), (hg, .inl (cI, 48, .inl tb)), (ql, .inr (3, [.ref lw, .ref hg, .ref tl, .ref th, .int dd])), (tl, .inl (cI, 48, .inl ta)), (th, .inl (cI, 48, .inl tb))] := hD
        refine lv_iload_n hx hb dX3_endTrial_107 rfl (lv_at hl 1 rfl) ?_
        subst hQ
        have hP9 := hP.sub (ws' := [(ql, .inr (3, [.ref lw, .ref hg, .ref tl, .ref th, .int dd])), (lw, .inl (cI, 48, .inl ta)), (hg, .inl (cI, 48, .inl tb)), (tl, .inl (cI, 48, .inl ta)), (th, .inl (cI, 48, .inl tb))]) [2, 0, 1, 3, 4] rfl
        have hD9 := hD.sub (ws' := [(ql, .inr (3, [.ref lw, .ref hg, .ref tl, .ref th, .int dd])), (lw, .inl (cI, 48, .inl ta)), (hg, .inl (cI, 48, .inl tb)), (tl, .inl (cI, 48, .inl ta)), (th, .inl (cI, 48, .inl tb))]) [2, 0, 1, 3, 4] (by decide) rfl
        have hK9 := hK
        exact W.iret (v := nI (fa_cnt (chg fl fh ta tb) i9)) hx hb hr (fun t ht hW => ⟨⟨nI (fa_cnt (chg fl fh ta tb) i9), (ta, tb, dd, ta, tb), rfl, ⟨⟨eta, etb⟩, Or.inr ⟨by rw [hei9], (by rw [← hei9]; exact hall), rfl, rfl, rfl⟩⟩, by rw [ht]; exact hP9, va_K.moved hW.alike hK9, hD9⟩, hS.F ht⟩) hS.2.2 dX3_endTrial_108
      · skip
        have hlti9 : i9 < 48 := (Nat.lt_or_ge i9 48).elim id (fun q => absurd (show nI 48 ≤ nI i9 from nI_le q (by omega)) c2)
        refine lv_aload_n hx hb dX3_endTrial_15 rfl (lv_at hl 2 rfl) ?_
        refine va_get (D := (dC, dI)) (ci := 3) (v := .ref tl) (C := RX3) (T := TX3) (N := 5) hx hb hts hiX3 hown hK hP 2 rfl rfl 2 (by decide) (hts (.fieldLink RX3 18 "TributePitches$Lode" "triedLows" "[I") (List.mem_of_getElem? (i := 1) rfl)) (fun _ h9 => h9) rfl dX3_endTrial_16 ?_
        refine lv_iload_n hx hb dX3_endTrial_19 rfl (lv_at hl 0 rfl) ?_
        refine va_iald hx hb hK hP 3 0 rfl rfl (vp_in_nI (by omega) (by omega)) dX3_endTrial_20 ?_
        refine lv_topi (fun v3 ev3 => ?_)
        have ev3 : v3 = ta i9 := by rw [ev3]; rw [nI_clamp (by omega)]
        subst ev3
        refine lv_aload_n hx hb dX3_endTrial_21 rfl (lv_at hl 2 rfl) ?_
        refine va_get (D := (dC, dI)) (ci := 3) (v := .ref th) (C := RX3) (T := TX3) (N := 5) hx hb hts hiX3 hown hK hP 2 rfl rfl 3 (by decide) (hts (.fieldLink RX3 21 "TributePitches$Lode" "triedHighs" "[I") (List.mem_of_getElem? (i := 2) rfl)) (fun _ h9 => h9) rfl dX3_endTrial_22 ?_
        refine lv_iload_n hx hb dX3_endTrial_25 rfl (lv_at hl 0 rfl) ?_
        refine va_iald hx hb hK hP 4 0 rfl rfl (vp_in_nI (by omega) (by omega)) dX3_endTrial_26 ?_
        refine lv_topi (fun v4 ev4 => ?_)
        have ev4 : v4 = tb i9 := by rw [ev4]; rw [nI_clamp (by omega)]
        subst ev4
        refine lv_icmp_le (tgt := 33) hx hb dX3_endTrial_27 (by decide) (fun c5 => ?_) (fun c5 => ?_)
        · skip
          have hle9 := c5
          refine lv_aload_n hx hb dX3_endTrial_33 rfl (lv_at hl 2 rfl) ?_
          refine va_get (D := (dC, dI)) (ci := 3) (v := .ref tl) (C := RX3) (T := TX3) (N := 5) hx hb hts hiX3 hown hK hP 2 rfl rfl 2 (by decide) (hts (.fieldLink RX3 18 "TributePitches$Lode" "triedLows" "[I") (List.mem_of_getElem? (i := 1) rfl)) (fun _ h9 => h9) rfl dX3_endTrial_34 ?_
          refine lv_iload_n hx hb dX3_endTrial_37 rfl (lv_at hl 0 rfl) ?_
          refine va_iald hx hb hK hP 3 0 rfl rfl (vp_in_nI (by omega) (by omega)) dX3_endTrial_38 ?_
          refine lv_topi (fun v6 ev6 => ?_)
          have ev6 : v6 = ta i9 := by rw [ev6]; rw [nI_clamp (by omega)]
          subst ev6
          refine lv_aload_n hx hb dX3_endTrial_39 rfl (lv_at hl 2 rfl) ?_
          refine va_get (D := (dC, dI)) (ci := 3) (v := .ref lw) (C := RX3) (T := TX3) (N := 5) hx hb hts hiX3 hown hK hP 2 rfl rfl 0 (by decide) (hts (.fieldLink RX3 11 "TributePitches$Lode" "lows" "[I") (List.mem_of_getElem? (i := 3) rfl)) (fun _ h9 => h9) rfl dX3_endTrial_40 ?_
          refine lv_iload_n hx hb dX3_endTrial_43 rfl (lv_at hl 0 rfl) ?_
          refine va_iald hx hb hK hP 0 0 rfl rfl (vp_in_nI (by omega) (by omega)) dX3_endTrial_44 ?_
          refine lv_topi (fun v7 ev7 => ?_)
          have ev7 : v7 = fl i9 := by rw [ev7]; rw [nI_clamp (by omega)]
          subst ev7
          refine lv_icmp_ne (tgt := 63) hx hb dX3_endTrial_45 (by decide) (fun c8 => ?_) (fun c8 => ?_)
          · skip
            refine lv_iinc (v := nI (fa_cnt (chg fl fh ta tb) i9 + 1)) (lv' := [(2, .int (nI (fa_cnt (chg fl fh ta tb) i9 + 1))), (3, .int (nI i9)), (0, .ref ql), (1, .int dd)]) hx hb dX3_endTrial_63 hl (k := 1) rfl (nI_1 _) (by decide) rfl (fun ls hl => ?_)
            refine lv_iinc (v := nI (i9 + 1)) (lv' := [(3, .int (nI (i9 + 1))), (2, .int (nI (fa_cnt (chg fl fh ta tb) i9 + 1))), (0, .ref ql), (1, .int dd)]) hx hb dX3_endTrial_66 hl (k := 1) rfl (nI_1 i9) (by decide) rfl (fun ls hl => ?_)
            refine lv_goto (tgt := 9) hx hb dX3_endTrial_69 (by decide) ?_
            have e9 : fa_cnt (chg fl fh ta tb) (i9 + 1) = fa_cnt (chg fl fh ta tb) i9 + 1 := fa_cnt_yes (by simp [chg, c5, c8])
            rw [← e9] at hl
            have hl : lv_has ls 4 [(3, .int (nI (i9 + 1))), (2, .int (nI (fa_cnt (chg fl fh ta tb) (i9 + 1)))), (0, .ref ql), (1, .int dd)] := hl
            exact ihi9 (i9 + 1)  _ _ ls (by omega) (by omega) (fun j hj => (Nat.lt_or_ge j i9).elim (fun q => hall j q) (fun q => by have e8 : j = i9 := (by omega); rw [e8]; exact Int32.not_lt.mpr hle9)) (hP.sub [0, 1, 2, 3, 4] rfl) (hD.sub [0, 1, 2, 3, 4] (by decide) rfl) hS (lv_sub hl [0, 1, 2, 3] rfl)
          · skip
            refine lv_aload_n hx hb dX3_endTrial_48 rfl (lv_at hl 2 rfl) ?_
            refine va_get (D := (dC, dI)) (ci := 3) (v := .ref th) (C := RX3) (T := TX3) (N := 5) hx hb hts hiX3 hown hK hP 2 rfl rfl 3 (by decide) (hts (.fieldLink RX3 21 "TributePitches$Lode" "triedHighs" "[I") (List.mem_of_getElem? (i := 2) rfl)) (fun _ h9 => h9) rfl dX3_endTrial_49 ?_
            refine lv_iload_n hx hb dX3_endTrial_52 rfl (lv_at hl 0 rfl) ?_
            refine va_iald hx hb hK hP 4 0 rfl rfl (vp_in_nI (by omega) (by omega)) dX3_endTrial_53 ?_
            refine lv_topi (fun v9 ev9 => ?_)
            have ev9 : v9 = tb i9 := by rw [ev9]; rw [nI_clamp (by omega)]
            subst ev9
            refine lv_aload_n hx hb dX3_endTrial_54 rfl (lv_at hl 2 rfl) ?_
            refine va_get (D := (dC, dI)) (ci := 3) (v := .ref hg) (C := RX3) (T := TX3) (N := 5) hx hb hts hiX3 hown hK hP 2 rfl rfl 1 (by decide) (hts (.fieldLink RX3 15 "TributePitches$Lode" "highs" "[I") (List.mem_of_getElem? (i := 4) rfl)) (fun _ h9 => h9) rfl dX3_endTrial_55 ?_
            refine lv_iload_n hx hb dX3_endTrial_58 rfl (lv_at hl 0 rfl) ?_
            refine va_iald hx hb hK hP 1 0 rfl rfl (vp_in_nI (by omega) (by omega)) dX3_endTrial_59 ?_
            refine lv_topi (fun v10 ev10 => ?_)
            have ev10 : v10 = fh i9 := by rw [ev10]; rw [nI_clamp (by omega)]
            subst ev10
            refine lv_icmp_eq (tgt := 66) hx hb dX3_endTrial_60 (by decide) (fun c11 => ?_) (fun c11 => ?_)
            · skip
              refine lv_iinc (v := nI (i9 + 1)) (lv' := [(3, .int (nI (i9 + 1))), (2, .int (nI (fa_cnt (chg fl fh ta tb) i9))), (0, .ref ql), (1, .int dd)]) hx hb dX3_endTrial_66 hl (k := 0) rfl (nI_1 i9) (by decide) rfl (fun ls hl => ?_)
              refine lv_goto (tgt := 9) hx hb dX3_endTrial_69 (by decide) ?_
              have e9 : fa_cnt (chg fl fh ta tb) (i9 + 1) = fa_cnt (chg fl fh ta tb) i9 := fa_cnt_no (by simp [chg, c8, c11])
              rw [← e9] at hl
              have hl : lv_has ls 4 [(3, .int (nI (i9 + 1))), (2, .int (nI (fa_cnt (chg fl fh ta tb) (i9 + 1)))), (0, .ref ql), (1, .int dd)] := hl
              exact ihi9 (i9 + 1)  _ _ ls (by omega) (by omega) (fun j hj => (Nat.lt_or_ge j i9).elim (fun q => hall j q) (fun q => by have e8 : j = i9 := (by omega); rw [e8]; exact Int32.not_lt.mpr hle9)) (hP.sub [0, 1, 2, 3, 4] rfl) (hD.sub [0, 1, 2, 3, 4] (by decide) rfl) hS (lv_sub hl [0, 1, 2, 3] rfl)
            · skip
              refine lv_iinc (v := nI (fa_cnt (chg fl fh ta tb) i9 + 1)) (lv' := [(2, .int (nI (fa_cnt (chg fl fh ta tb) i9 + 1))), (3, .int (nI i9)), (0, .ref ql), (1, .int dd)]) hx hb dX3_endTrial_63 hl (k := 1) rfl (nI_1 _) (by decide) rfl (fun ls hl => ?_)
              refine lv_iinc (v := nI (i9 + 1)) (lv' := [(3, .int (nI (i9 + 1))), (2, .int (nI (fa_cnt (chg fl fh ta tb) i9 + 1))), (0, .ref ql), (1, .int dd)]) hx hb dX3_endTrial_66 hl (k := 1) rfl (nI_1 i9) (by decide) rfl (fun ls hl => ?_)
              refine lv_goto (tgt := 9) hx hb dX3_endTrial_69 (by decide) ?_
              have e9 : fa_cnt (chg fl fh ta tb) (i9 + 1) = fa_cnt (chg fl fh ta tb) i9 + 1 := fa_cnt_yes (by simp [chg, c8, c11])
              rw [← e9] at hl
              have hl : lv_has ls 4 [(3, .int (nI (i9 + 1))), (2, .int (nI (fa_cnt (chg fl fh ta tb) (i9 + 1)))), (0, .ref ql), (1, .int dd)] := hl
              exact ihi9 (i9 + 1)  _ _ ls (by omega) (by omega) (fun j hj => (Nat.lt_or_ge j i9).elim (fun q => hall j q) (fun q => by have e8 : j = i9 := (by omega); rw [e8]; exact Int32.not_lt.mpr hle9)) (hP.sub [0, 1, 2, 3, 4] rfl) (hD.sub [0, 1, 2, 3, 4] (by decide) rfl) hS (lv_sub hl [0, 1, 2, 3] rfl)
        · skip
          refine lv_bipush (v := (-3)) hx hb dX3_endTrial_30 (by decide) ?_
          subst hQ
          have hP9 := hP.sub (ws' := [(ql, .inr (3, [.ref lw, .ref hg, .ref tl, .ref th, .int law])), (lw, .inl (cI, 48, .inl fl)), (hg, .inl (cI, 48, .inl fh)), (tl, .inl (cI, 48, .inl ta)), (th, .inl (cI, 48, .inl tb))]) [2, 0, 1, 3, 4] rfl
          have hD9 := hD.sub (ws' := [(ql, .inr (3, [.ref lw, .ref hg, .ref tl, .ref th, .int law])), (lw, .inl (cI, 48, .inl fl)), (hg, .inl (cI, 48, .inl fh)), (tl, .inl (cI, 48, .inl ta)), (th, .inl (cI, 48, .inl tb))]) [2, 0, 1, 3, 4] (by decide) rfl
          have hK9 := hK
          exact W.iret (v := (-3)) hx hb hr (fun t ht hW => ⟨⟨(-3), (fl, fh, law, ta, tb), rfl, ⟨⟨eta, etb⟩, Or.inl ⟨rfl, ⟨i9, hlti9, Int32.not_le.mp c5⟩, rfl, rfl, rfl⟩⟩, by rw [ht]; exact hP9, va_K.moved hW.alike hK9, hD9⟩, hS.F ht⟩) hS.2.2 dX3_endTrial_32
  exact loop9 (48 + 1 - 0) 0  _ _ ls (by omega) (by omega) (fun j hj => absurd hj (Nat.not_lt_zero j)) hP hD hS (lv_sub hl [0, 1, 2, 3] rfl)
theorem sqN {x y : Int32} (h : (0 ≤ x ∧ x ≤ 7) ∧ (0 ≤ y ∧ y ≤ 5)) : ∃ q : Nat, q < 48 ∧ 8 * y + x = nI q := by
  obtain ⟨a, ha, rfl⟩ := nI_of2 (x := x) (M := 7) (n := 7) (by decide) (Int32.not_lt.mpr h.1.1) h.1.2
  obtain ⟨b, hb, rfl⟩ := nI_of2 (x := y) (M := 5) (n := 5) (by decide) (Int32.not_lt.mpr h.2.1) h.2.2
  exact ⟨8 * b + a, by omega, sqn b a⟩
def pC_find (zc : CS) (x : Int32) (y : Int32) (lo : Int32) (hi : Int32) (r : Int32) (u : CS) : Prop :=
  (((0 ≤ x ∧ x ≤ 7) ∧ (0 ≤ y ∧ y ≤ 5)) ∧ (¬ (0 ≤ lo ∧ lo ≤ 1000)) ∧ r = ((-2)) ∧ u = zc) ∨
  (((0 ≤ x ∧ x ≤ 7) ∧ (0 ≤ y ∧ y ≤ 5)) ∧ (0 ≤ lo ∧ lo ≤ 1000) ∧ (¬ (0 ≤ hi ∧ hi ≤ 1000)) ∧ r = ((-2)) ∧ u = zc) ∨
  (((0 ≤ x ∧ x ≤ 7) ∧ (0 ≤ y ∧ y ≤ 5)) ∧ (0 ≤ lo ∧ lo ≤ 1000) ∧ (0 ≤ hi ∧ hi ≤ 1000) ∧ (lo ≤ hi) ∧ ∃ sq : Nat, (sq < 48) ∧ (8 * y + x = nI sq) ∧ ∃ fl1_12 : Nat → Int32, ∃ fh1_13 : Nat → Int32, ∃ la1_14 : Int32, ∃ tl1_15 : Nat → Int32, ∃ th1_16 : Nat → Int32, ∃ r11 : Int32, ((tl1_15 = dnL (cs_i zc 0) (swL (cs_i zc 0) (tcL sq lo (cs_I zc 0)) 48) 48 ∧ th1_16 = dnH (cs_i zc 0) (swH (cs_i zc 0) (tcH sq hi (cs_I zc 1)) 48) 48) ∧ ((r11 = -3 ∧ (∃ j, j < 48 ∧ th1_16 j < tl1_15 j) ∧ fl1_12 = (cs_I zc 0) ∧ fh1_13 = (cs_I zc 1) ∧ la1_14 = (cs_i zc 0)) ∨ (r11 = nI (fa_cnt (chg (cs_I zc 0) (cs_I zc 1) tl1_15 th1_16) 48) ∧ (∀ j, j < 48 → ¬ th1_16 j < tl1_15 j) ∧ fl1_12 = tl1_15 ∧ fh1_13 = th1_16 ∧ la1_14 = (cs_i zc 0)))) ∧ r = (r11) ∧ u = (va_up (cs_i zc) 0 la1_14, cs_n zc, va_up (va_up (va_up (va_up (cs_I zc) 0 fl1_12) 1 fh1_13) 2 tl1_15) 3 th1_16, cs_L zc, cs_N zc, cs_S zc, cs_X zc)) ∨
  (((0 ≤ x ∧ x ≤ 7) ∧ (0 ≤ y ∧ y ≤ 5)) ∧ (0 ≤ lo ∧ lo ≤ 1000) ∧ (0 ≤ hi ∧ hi ≤ 1000) ∧ (¬ lo ≤ hi) ∧ r = ((-2)) ∧ u = zc) ∨
  ((¬ ((0 ≤ x ∧ x ≤ 7) ∧ (0 ≤ y ∧ y ≤ 5))) ∧ r = ((-1)) ∧ u = zc)
set_option maxHeartbeats 4000000 in
theorem lf_find_2 (cA : Nat → ClassId) (zc : CS) (x : Int32) (y : Int32) (lo : Int32) (hi : Int32) (sq : Nat) (fl1_12 : Nat → Int32) (fh1_13 : Nat → Int32) (la1_14 : Int32) (tl1_15 : Nat → Int32) (th1_16 : Nat → Int32) (r11 : Int32) (c2 : (0 ≤ x ∧ x ≤ 7) ∧ (0 ≤ y ∧ y ≤ 5)) (c4 : 0 ≤ lo ∧ lo ≤ 1000) (c6 : 0 ≤ hi ∧ hi ≤ 1000) (c7 : lo ≤ hi) (hsq : sq < 48) (esq : 8 * y + x = nI sq) (hr11 : (tl1_15 = dnL (cs_i zc 0) (swL (cs_i zc 0) (tcL sq lo (cs_I zc 0)) 48) 48 ∧ th1_16 = dnH (cs_i zc 0) (swH (cs_i zc 0) (tcH sq hi (cs_I zc 1)) 48) 48) ∧ ((r11 = -3 ∧ (∃ j, j < 48 ∧ th1_16 j < tl1_15 j) ∧ fl1_12 = (cs_I zc 0) ∧ fh1_13 = (cs_I zc 1) ∧ la1_14 = (cs_i zc 0)) ∨ (r11 = nI (fa_cnt (chg (cs_I zc 0) (cs_I zc 1) tl1_15 th1_16) 48) ∧ (∀ j, j < 48 → ¬ th1_16 j < tl1_15 j) ∧ fl1_12 = tl1_15 ∧ fh1_13 = th1_16 ∧ la1_14 = (cs_i zc 0)))) (hI : invC zc) : invC (va_up (cs_i zc) 0 la1_14, cs_n zc, va_up (va_up (va_up (va_up (cs_I zc) 0 fl1_12) 1 fh1_13) 2 tl1_15) 3 th1_16, cs_L zc, cs_N zc, cs_S zc, cs_X zc) ∧ kAll (cF cA (va_up (cs_i zc) 0 la1_14, cs_n zc, va_up (va_up (va_up (va_up (cs_I zc) 0 fl1_12) 1 fh1_13) 2 tl1_15) 3 th1_16, cs_L zc, cs_N zc, cs_S zc, cs_X zc)) [(0, 0), (0, 1), (0, 2), (0, 3), (0, 4), (0, 5)] [cTP zc, (cs_X zc 0 1, .inr (3, [.ref (cs_X zc 0 2), .ref (cs_X zc 0 3), .ref (cs_X zc 0 4), .ref (cs_X zc 0 5), .int la1_14])), (cs_X zc 0 2, .inl (cA 0, 48, .inl fl1_12)), (cs_X zc 0 3, .inl (cA 0, 48, .inl fh1_13)), (cs_X zc 0 4, .inl (cA 0, 48, .inl tl1_15)), (cs_X zc 0 5, .inl (cA 0, 48, .inl th1_16))] ∧ ∀ i j, (i, j) ∉ ([(0, 0), (0, 1), (0, 2), (0, 3), (0, 4), (0, 5)] : List (Nat × Nat)) → cF cA (va_up (cs_i zc) 0 la1_14, cs_n zc, va_up (va_up (va_up (va_up (cs_I zc) 0 fl1_12) 1 fh1_13) 2 tl1_15) 3 th1_16, cs_L zc, cs_N zc, cs_S zc, cs_X zc) i j = none ∨ ((i, j) ∉ ([(0, 0), (0, 1), (0, 2), (0, 3), (0, 4), (0, 5)] : List (Nat × Nat)) ∧ cF cA (va_up (cs_i zc) 0 la1_14, cs_n zc, va_up (va_up (va_up (va_up (cs_I zc) 0 fl1_12) 1 fh1_13) 2 tl1_15) 3 th1_16, cs_L zc, cs_N zc, cs_S zc, cs_X zc) i j = cF cA zc i j) := by
  obtain ⟨⟨hn0, hn1, hn2, hn3, hn4, hn5⟩, hpi, hgk, htk, hpk, hsh⟩ := id hI
  refine ⟨hI, ⟨(by (rw [(kF_tp (cA := cA) (z := (va_up (cs_i zc) 0 la1_14, cs_n zc, va_up (va_up (va_up (va_up (cs_I zc) 0 fl1_12) 1 fh1_13) 2 tl1_15) 3 th1_16, cs_L zc, cs_N zc, cs_S zc, cs_X zc)))]) <;> simp [cTP, cTPN, cTPA, cLo, cA2, cA3, cA4, cA5, cR6, cR7, cR8, cR9, cR10, cTr, cPi, cPiN, cPiT, cGa, cGaK, cTa, cPa, cAu, cAuN, cAuB, cSh, cSc, cs_i, cs_n, cs_I, cs_L, cs_N, cs_S, cs_X, va_up, upd, opN]), (by (rw [(kF_lo (cA := cA) (z := (va_up (cs_i zc) 0 la1_14, cs_n zc, va_up (va_up (va_up (va_up (cs_I zc) 0 fl1_12) 1 fh1_13) 2 tl1_15) 3 th1_16, cs_L zc, cs_N zc, cs_S zc, cs_X zc)))]) <;> simp [cTP, cTPN, cTPA, cLo, cA2, cA3, cA4, cA5, cR6, cR7, cR8, cR9, cR10, cTr, cPi, cPiN, cPiT, cGa, cGaK, cTa, cPa, cAu, cAuN, cAuB, cSh, cSc, cs_i, cs_n, cs_I, cs_L, cs_N, cs_S, cs_X, va_up, upd, opN]), (by (rw [(kF_a2 (cA := cA) (z := (va_up (cs_i zc) 0 la1_14, cs_n zc, va_up (va_up (va_up (va_up (cs_I zc) 0 fl1_12) 1 fh1_13) 2 tl1_15) 3 th1_16, cs_L zc, cs_N zc, cs_S zc, cs_X zc)))]) <;> simp [cTP, cTPN, cTPA, cLo, cA2, cA3, cA4, cA5, cR6, cR7, cR8, cR9, cR10, cTr, cPi, cPiN, cPiT, cGa, cGaK, cTa, cPa, cAu, cAuN, cAuB, cSh, cSc, cs_i, cs_n, cs_I, cs_L, cs_N, cs_S, cs_X, va_up, upd, opN]), (by (rw [(kF_a3 (cA := cA) (z := (va_up (cs_i zc) 0 la1_14, cs_n zc, va_up (va_up (va_up (va_up (cs_I zc) 0 fl1_12) 1 fh1_13) 2 tl1_15) 3 th1_16, cs_L zc, cs_N zc, cs_S zc, cs_X zc)))]) <;> simp [cTP, cTPN, cTPA, cLo, cA2, cA3, cA4, cA5, cR6, cR7, cR8, cR9, cR10, cTr, cPi, cPiN, cPiT, cGa, cGaK, cTa, cPa, cAu, cAuN, cAuB, cSh, cSc, cs_i, cs_n, cs_I, cs_L, cs_N, cs_S, cs_X, va_up, upd, opN]), (by (rw [(kF_a4 (cA := cA) (z := (va_up (cs_i zc) 0 la1_14, cs_n zc, va_up (va_up (va_up (va_up (cs_I zc) 0 fl1_12) 1 fh1_13) 2 tl1_15) 3 th1_16, cs_L zc, cs_N zc, cs_S zc, cs_X zc)))]) <;> simp [cTP, cTPN, cTPA, cLo, cA2, cA3, cA4, cA5, cR6, cR7, cR8, cR9, cR10, cTr, cPi, cPiN, cPiT, cGa, cGaK, cTa, cPa, cAu, cAuN, cAuB, cSh, cSc, cs_i, cs_n, cs_I, cs_L, cs_N, cs_S, cs_X, va_up, upd, opN]), (by (rw [(kF_a5 (cA := cA) (z := (va_up (cs_i zc) 0 la1_14, cs_n zc, va_up (va_up (va_up (va_up (cs_I zc) 0 fl1_12) 1 fh1_13) 2 tl1_15) 3 th1_16, cs_L zc, cs_N zc, cs_S zc, cs_X zc)))]) <;> simp [cTP, cTPN, cTPA, cLo, cA2, cA3, cA4, cA5, cR6, cR7, cR8, cR9, cR10, cTr, cPi, cPiN, cPiT, cGa, cGaK, cTa, cPa, cAu, cAuN, cAuB, cSh, cSc, cs_i, cs_n, cs_I, cs_L, cs_N, cs_S, cs_X, va_up, upd, opN]), trivial⟩, ?_⟩
  intro i j hij
  refine Or.inr ⟨hij, ?_⟩
  rcases i with _ | _ | _ | _ | _ | _ | _ | _ | i
  · rcases j with _ | _ | _ | _ | _ | _ | _ | _ | _ | _ | _ | _ | j
    · exact absurd (by simp) hij
    · exact absurd (by simp) hij
    · exact absurd (by simp) hij
    · exact absurd (by simp) hij
    · exact absurd (by simp) hij
    · exact absurd (by simp) hij
    · show some (cR6 cA (va_up (cs_i zc) 0 la1_14, cs_n zc, va_up (va_up (va_up (va_up (cs_I zc) 0 fl1_12) 1 fh1_13) 2 tl1_15) 3 th1_16, cs_L zc, cs_N zc, cs_S zc, cs_X zc)) = some (cR6 cA zc); simp [cR6, cs_i, cs_n, cs_I, cs_L, cs_N, cs_S, cs_X, va_up]
    · show some (cR7 cA (va_up (cs_i zc) 0 la1_14, cs_n zc, va_up (va_up (va_up (va_up (cs_I zc) 0 fl1_12) 1 fh1_13) 2 tl1_15) 3 th1_16, cs_L zc, cs_N zc, cs_S zc, cs_X zc)) = some (cR7 cA zc); simp [cR7, cs_i, cs_n, cs_I, cs_L, cs_N, cs_S, cs_X, va_up]
    · show some (cR8 cA (va_up (cs_i zc) 0 la1_14, cs_n zc, va_up (va_up (va_up (va_up (cs_I zc) 0 fl1_12) 1 fh1_13) 2 tl1_15) 3 th1_16, cs_L zc, cs_N zc, cs_S zc, cs_X zc)) = some (cR8 cA zc); simp [cR8, cs_i, cs_n, cs_I, cs_L, cs_N, cs_S, cs_X, va_up]
    · show some (cR9 cA (va_up (cs_i zc) 0 la1_14, cs_n zc, va_up (va_up (va_up (va_up (cs_I zc) 0 fl1_12) 1 fh1_13) 2 tl1_15) 3 th1_16, cs_L zc, cs_N zc, cs_S zc, cs_X zc)) = some (cR9 cA zc); simp [cR9, cs_i, cs_n, cs_I, cs_L, cs_N, cs_S, cs_X, va_up]
    · show some (cR10 cA (va_up (cs_i zc) 0 la1_14, cs_n zc, va_up (va_up (va_up (va_up (cs_I zc) 0 fl1_12) 1 fh1_13) 2 tl1_15) 3 th1_16, cs_L zc, cs_N zc, cs_S zc, cs_X zc)) = some (cR10 cA zc); simp [cR10, cs_i, cs_n, cs_I, cs_L, cs_N, cs_S, cs_X, va_up]
    · show some (cTr (va_up (cs_i zc) 0 la1_14, cs_n zc, va_up (va_up (va_up (va_up (cs_I zc) 0 fl1_12) 1 fh1_13) 2 tl1_15) 3 th1_16, cs_L zc, cs_N zc, cs_S zc, cs_X zc)) = some (cTr zc); simp [cTr, cs_i, cs_n, cs_I, cs_L, cs_N, cs_S, cs_X, va_up]
    · show (none : Option (Nat × va_E)) = none; rfl
  · show (if j < cs_n (va_up (cs_i zc) 0 la1_14, cs_n zc, va_up (va_up (va_up (va_up (cs_I zc) 0 fl1_12) 1 fh1_13) 2 tl1_15) 3 th1_16, cs_L zc, cs_N zc, cs_S zc, cs_X zc) 0 then some (cPi (va_up (cs_i zc) 0 la1_14, cs_n zc, va_up (va_up (va_up (va_up (cs_I zc) 0 fl1_12) 1 fh1_13) 2 tl1_15) 3 th1_16, cs_L zc, cs_N zc, cs_S zc, cs_X zc) j) else none) = if j < cs_n zc 0 then some (cPi zc j) else none
    simp [cPi, cs_i, cs_n, cs_I, cs_L, cs_N, cs_S, cs_X, va_up]
  · show (if j < cs_n (va_up (cs_i zc) 0 la1_14, cs_n zc, va_up (va_up (va_up (va_up (cs_I zc) 0 fl1_12) 1 fh1_13) 2 tl1_15) 3 th1_16, cs_L zc, cs_N zc, cs_S zc, cs_X zc) 1 then some (cGa (va_up (cs_i zc) 0 la1_14, cs_n zc, va_up (va_up (va_up (va_up (cs_I zc) 0 fl1_12) 1 fh1_13) 2 tl1_15) 3 th1_16, cs_L zc, cs_N zc, cs_S zc, cs_X zc) j) else none) = if j < cs_n zc 1 then some (cGa zc j) else none
    simp [cGa, cs_i, cs_n, cs_I, cs_L, cs_N, cs_S, cs_X, va_up]
  · show (if j < cs_n (va_up (cs_i zc) 0 la1_14, cs_n zc, va_up (va_up (va_up (va_up (cs_I zc) 0 fl1_12) 1 fh1_13) 2 tl1_15) 3 th1_16, cs_L zc, cs_N zc, cs_S zc, cs_X zc) 2 then some (cTa (va_up (cs_i zc) 0 la1_14, cs_n zc, va_up (va_up (va_up (va_up (cs_I zc) 0 fl1_12) 1 fh1_13) 2 tl1_15) 3 th1_16, cs_L zc, cs_N zc, cs_S zc, cs_X zc) j) else none) = if j < cs_n zc 2 then some (cTa zc j) else none
    simp [cTa, cs_i, cs_n, cs_I, cs_L, cs_N, cs_S, cs_X, va_up]
  · show (if j < cs_n (va_up (cs_i zc) 0 la1_14, cs_n zc, va_up (va_up (va_up (va_up (cs_I zc) 0 fl1_12) 1 fh1_13) 2 tl1_15) 3 th1_16, cs_L zc, cs_N zc, cs_S zc, cs_X zc) 3 then some (cPa (va_up (cs_i zc) 0 la1_14, cs_n zc, va_up (va_up (va_up (va_up (cs_I zc) 0 fl1_12) 1 fh1_13) 2 tl1_15) 3 th1_16, cs_L zc, cs_N zc, cs_S zc, cs_X zc) j) else none) = if j < cs_n zc 3 then some (cPa zc j) else none
    simp [cPa, cs_i, cs_n, cs_I, cs_L, cs_N, cs_S, cs_X, va_up]
  · show (if j = 0 ∧ ¬ cs_n (va_up (cs_i zc) 0 la1_14, cs_n zc, va_up (va_up (va_up (va_up (cs_I zc) 0 fl1_12) 1 fh1_13) 2 tl1_15) 3 th1_16, cs_L zc, cs_N zc, cs_S zc, cs_X zc) 4 = 0 then some (cAu (va_up (cs_i zc) 0 la1_14, cs_n zc, va_up (va_up (va_up (va_up (cs_I zc) 0 fl1_12) 1 fh1_13) 2 tl1_15) 3 th1_16, cs_L zc, cs_N zc, cs_S zc, cs_X zc)) else none) = if j = 0 ∧ ¬ cs_n zc 4 = 0 then some (cAu zc) else none
    simp [cAu, cs_i, cs_n, cs_I, cs_L, cs_N, cs_S, cs_X, va_up]
  · show (if j < 4 then some (cSh (va_up (cs_i zc) 0 la1_14, cs_n zc, va_up (va_up (va_up (va_up (cs_I zc) 0 fl1_12) 1 fh1_13) 2 tl1_15) 3 th1_16, cs_L zc, cs_N zc, cs_S zc, cs_X zc) j) else none) = if j < 4 then some (cSh zc j) else none
    simp [cSh, cs_i, cs_n, cs_I, cs_L, cs_N, cs_S, cs_X, va_up]
  · show (if j < 4 then some (cSc cA (va_up (cs_i zc) 0 la1_14, cs_n zc, va_up (va_up (va_up (va_up (cs_I zc) 0 fl1_12) 1 fh1_13) 2 tl1_15) 3 th1_16, cs_L zc, cs_N zc, cs_S zc, cs_X zc) j) else none) = if j < 4 then some (cSc cA zc j) else none
    simp [cSc, cs_i, cs_n, cs_I, cs_L, cs_N, cs_S, cs_X, va_up]
  · show (none : Option (Nat × va_E)) = none; rfl
set_option maxHeartbeats 4000000 in
set_option maxRecDepth 100000 in
theorem K_find (l : Launch) (dC : Nat → ClassId) (dI : Nat → Nat → Nat) (cA : Nat → ClassId) (sz : Nat) (zc : CS) (x : Int32) (y : Int32) (lo : Int32) (hi : Int32) (hI : invC zc) : Met l yX10_find wsX10_find ({ frames := 5, cells := 0, slots := 0, locals := 150 }) (kw (dC, dI) (ctys cA) (cF cA zc) sz [.ref (cs_X zc 0 0), .int x, .int y, .int lo, .int hi]) (kQi (dC, dI) (ctys cA) (cF cA zc) sz (cF cA) (fun r u => (invC u ∧ cs_X u 0 0 = cs_X zc 0 0) ∧ pC_find zc x y lo hi r u)) 0 0 (kA (cF cA zc) sz) := by
  refine kw_met (cc := cX10_find) (maxL := 5) (ret := (some .int)) (by decide) rfl (Nat.le_of_ble_eq_true rfl) ?_
  intro p e s m below meth c0 hx hb hr hml hown hlocks hnm hts hPk hKk hDk hN hsz ls hl
  subst hsz
  have hK : va_K (dC, dI) vwCl [(cA 0, .int), (cA 1, .object RX6), (cA 2, .object RX2), (cA 3, .object RX8), (cA 4, .object RX5), (cA 5, .object RX7)] s := hKk
  obtain ⟨⟨hn0, hn1, hn2, hn3, hn4, hn5⟩, hpi, hgk, htk, hpk, hsh⟩ := id hI
  have hl : lv_has ls 5 [(0, .ref (cs_X zc 0 0)), (1, .int x), (2, .int y), (3, .int lo), (4, .int hi)] := hl
  have hiX10 : ∀ w ∈ wsX100, w ∈ wsX10_find := fun _ h => List.mem_cons_of_mem _ (List.mem_append_left _ (List.mem_append_right _ (h)))
  have hiX3 : ∀ w ∈ wsX30, w ∈ wsX10_find := fun _ h => List.mem_cons_of_mem _ (List.mem_append_right _ (h))
  generalize hQ : MQ _ _ _ _ _ _ _ = Q
  have hks : kAll (cF cA zc) [(0, 0), (0, 1), (0, 2), (0, 3), (0, 4), (0, 5)] [cTP zc, cLo zc, cA2 cA zc, cA3 cA zc, cA4 cA zc, cA5 cA zc] := ⟨(kF_tp (cA := cA) (z := zc)), (kF_lo (cA := cA) (z := zc)), (kF_a2 (cA := cA) (z := zc)), (kF_a3 (cA := cA) (z := zc)), (kF_a4 (cA := cA) (z := zc)), (kF_a5 (cA := cA) (z := zc)), trivial⟩
  have hP : va_P (dC, dI) vwCl [cTP zc, cLo zc, cA2 cA zc, cA3 cA zc, cA4 cA zc, cA5 cA zc] s.heap := kAll_P hPk hks
  have hD : va_D (va_A [cTP zc, cLo zc, cA2 cA zc, cA3 cA zc, cA4 cA zc, cA5 cA zc] s.heap.size) [cTP zc, cLo zc, cA2 cA zc, cA3 cA zc, cA4 cA zc, cA5 cA zc] := (kAll_D hDk hks (by simp)).self
  have hA : ∀ q : Nat, s.heap.size ≤ q → va_A [cTP zc, cLo zc, cA2 cA zc, cA3 cA zc, cA4 cA zc, cA5 cA zc] s.heap.size q := fun q h => Or.inr h
  have hS : va_S (va_A [cTP zc, cLo zc, cA2 cA zc, cA3 cA zc, cA4 cA zc, cA5 cA zc] s.heap.size) s.heap s.heap [] := va_S.rf
  refine lv_iload_n hx hb dX10_find_0 rfl (lv_at hl 1 rfl) ?_
  refine lv_iload_n hx hb dX10_find_1 rfl (lv_at hl 2 rfl) ?_
  refine vp_callSi (va_Run.run (va_runS (As := [.int x, .int y]) (rest := []) ⟨hx, hb, hml, hown, hts⟩ (c_X3_hasSquare l x y ) (va_cwS 2 hts gX10_find_X3_hasSquare rfl rfl rfl (by decide +kernel) ⟨Nat.le_of_ble_eq_true rfl, Nat.le_of_ble_eq_true rfl⟩) (p0_preS hN) rfl rfl hl.1 rfl (lv_room (Nat.le_of_ble_eq_true rfl)) dX10_find_2 ⟨Nat.le_of_ble_eq_true rfl, Nat.le_of_ble_eq_true rfl⟩)) (fun r1 hr1 => ?_)
  have hr1 : r1 = if (0 ≤ x ∧ x ≤ 7) ∧ (0 ≤ y ∧ y ≤ 5) then 1 else 0 := hr1
  refine lv_if_ne (tgt := 10) hx hb dX10_find_5 (by decide) (fun c2 => ?_) (fun c2 => ?_)
  · skip
    have c2 := (fa_bool_prop hr1).2.mp c2
    refine lv_iload_n hx hb dX10_find_10 rfl (lv_at hl 3 rfl) ?_
    refine lv_iconst (v := 0) hx hb dX10_find_11 (by decide) ?_
    refine lv_sipush (v := 1000) hx hb dX10_find_12 (by decide) ?_
    refine vp_callSi (va_Run.run (va_runS (As := [.int lo, .int 0, .int 1000]) (rest := []) ⟨hx, hb, hml, hown, hts⟩ (c_X10_isWithin l lo 0 1000 ) (va_cwS 3 hts gX10_find_X10_isWithin rfl rfl rfl (by decide +kernel) ⟨Nat.le_of_ble_eq_true rfl, Nat.le_of_ble_eq_true rfl⟩) (p0_preS hN) rfl rfl hl.1 rfl (lv_room (Nat.le_of_ble_eq_true rfl)) dX10_find_15 ⟨Nat.le_of_ble_eq_true rfl, Nat.le_of_ble_eq_true rfl⟩)) (fun r3 hr3 => ?_)
    have hr3 : r3 = if 0 ≤ lo ∧ lo ≤ 1000 then 1 else 0 := hr3
    refine lv_if_eq (tgt := 39) hx hb dX10_find_18 (by decide) (fun c4 => ?_) (fun c4 => ?_)
    · skip
      have c4 := (fa_bool_prop hr3).1.mp c4
      refine lv_bipush (v := (-2)) hx hb dX10_find_39 (by decide) ?_
      subst hQ
      exact W.iret (v := (-2)) hx hb hr (fun t ht hW => ⟨⟨(-2), zc, rfl, ⟨⟨hI, rfl⟩, (Or.inl ⟨c2, c4, rfl, rfl⟩)⟩, (by rw [ht]; exact hPk), va_K.moved hW.alike hKk, kDA_self hDk⟩, (kw_same hPk ht).2⟩) (fun q h => absurd h List.not_mem_nil) dX10_find_41
    · skip
      have c4 := (fa_bool_prop hr3).2.mp c4
      refine lv_iload hx hb dX10_find_21 (lv_at hl 4 rfl) ?_
      refine lv_iconst (v := 0) hx hb dX10_find_23 (by decide) ?_
      refine lv_sipush (v := 1000) hx hb dX10_find_24 (by decide) ?_
      refine vp_callSi (va_Run.run (va_runS (As := [.int hi, .int 0, .int 1000]) (rest := []) ⟨hx, hb, hml, hown, hts⟩ (c_X10_isWithin l hi 0 1000 ) (va_cwS 3 hts gX10_find_X10_isWithin rfl rfl rfl (by decide +kernel) ⟨Nat.le_of_ble_eq_true rfl, Nat.le_of_ble_eq_true rfl⟩) (p0_preS hN) rfl rfl hl.1 rfl (lv_room (Nat.le_of_ble_eq_true rfl)) dX10_find_27 ⟨Nat.le_of_ble_eq_true rfl, Nat.le_of_ble_eq_true rfl⟩)) (fun r5 hr5 => ?_)
      have hr5 : r5 = if 0 ≤ hi ∧ hi ≤ 1000 then 1 else 0 := hr5
      refine lv_if_eq (tgt := 39) hx hb dX10_find_30 (by decide) (fun c6 => ?_) (fun c6 => ?_)
      · skip
        have c6 := (fa_bool_prop hr5).1.mp c6
        refine lv_bipush (v := (-2)) hx hb dX10_find_39 (by decide) ?_
        subst hQ
        exact W.iret (v := (-2)) hx hb hr (fun t ht hW => ⟨⟨(-2), zc, rfl, ⟨⟨hI, rfl⟩, (Or.inr (Or.inl ⟨c2, c4, c6, rfl, rfl⟩))⟩, (by rw [ht]; exact hPk), va_K.moved hW.alike hKk, kDA_self hDk⟩, (kw_same hPk ht).2⟩) (fun q h => absurd h List.not_mem_nil) dX10_find_41
      · skip
        have c6 := (fa_bool_prop hr5).2.mp c6
        refine lv_iload_n hx hb dX10_find_33 rfl (lv_at hl 3 rfl) ?_
        refine lv_iload hx hb dX10_find_34 (lv_at hl 4 rfl) ?_
        refine lv_icmp_le (tgt := 42) hx hb dX10_find_36 (by decide) (fun c7 => ?_) (fun c7 => ?_)
        · skip
          refine lv_aload_n hx hb dX10_find_42 rfl (lv_at hl 0 rfl) ?_
          refine va_get (D := (dC, dI)) (ci := 10) (v := .ref (cs_X zc 0 1)) (C := RX10) (T := TX10) (N := 13) hx hb hts hiX10 hown hK hP 0 rfl rfl 0 (by decide) (hts (.fieldLink RX10 12 "TributePitches" "lode" "LTributePitches$Lode;") (List.mem_of_getElem? (i := 1) rfl)) (fun _ h9 => h9) rfl dX10_find_43 ?_
          have hPc := hP.sub (ws' := [cLo zc, cA2 cA zc, cA3 cA zc, cA4 cA zc, cA5 cA zc]) [1, 2, 3, 4, 5] rfl
          have hDc := hD.sub (ws' := [cLo zc, cA2 cA zc, cA3 cA zc, cA4 cA zc, cA5 cA zc]) [1, 2, 3, 4, 5] (by decide) rfl
          have hKc := hK.sub (tys' := [(cA 0, .int)]) [0] rfl
          have hFc := va_free (wc := [cLo zc, cA2 cA zc, cA3 cA zc, cA4 cA zc, cA5 cA zc]) hD hS hA [1, 2, 3, 4, 5] rfl
          refine va_callv (va_runV (As := []) (rest := []) ⟨hx, hb, hml, hown, hts⟩ (c_X3_beginTrial l dC dI (cA 0) _ (cs_X zc 0 1) (cs_X zc 0 2) (cs_X zc 0 3) (cs_X zc 0 4) (cs_X zc 0 5) (cs_i zc 0) (cs_I zc 0) (cs_I zc 1) (cs_I zc 2) (cs_I zc 3) ) (cwV 0 hts gX10_find_X3_beginTrial rfl rfl rfl (by decide +kernel) ⟨Nat.le_of_ble_eq_true rfl, Nat.le_of_ble_eq_true rfl⟩) (pw_preV (va_recv hKc hPc (ci := 3) (q0 := 0) rfl rfl) hPc hKc hDc hN) rfl rfl hl.1 rfl (lv_room (Nat.le_of_ble_eq_true rfl)) dX10_find_46 ⟨Nat.le_of_ble_eq_true rfl, Nat.le_of_ble_eq_true rfl⟩) hS (fun q _ h => hFc q h) hFc (fun u t H1 locs ht hvm hw hB hz1 hk1 hS => ?_)
          obtain ⟨hP1, hK1, hD1⟩ := hB
          rw [ht] at hP1
          obtain ⟨hP, hD⟩ := va_join (wr := [cTP zc]) (w1 := [(cs_X zc 0 1, .inr (3, [.ref (cs_X zc 0 2), .ref (cs_X zc 0 3), .ref (cs_X zc 0 4), .ref (cs_X zc 0 5), .int (cs_i zc 0)])), (cs_X zc 0 2, .inl (cA 0, 48, .inl (cs_I zc 0))), (cs_X zc 0 3, .inl (cA 0, 48, .inl (cs_I zc 1))), (cs_X zc 0 4, .inl (cA 0, 48, .inl (cs_I zc 0))), (cs_X zc 0 5, .inl (cA 0, 48, .inl (cs_I zc 1)))]) hP hD [1, 2, 3, 4, 5] [0] rfl rfl (by decide) (by decide) hk1 hFc hP1 hD1
          generalize H1 = H at hP hS ⊢
          have hP : va_P (dC, dI) vwCl [cTP zc, (cs_X zc 0 1, .inr (3, [.ref (cs_X zc 0 2), .ref (cs_X zc 0 3), .ref (cs_X zc 0 4), .ref (cs_X zc 0 5), .int (cs_i zc 0)])), (cs_X zc 0 2, .inl (cA 0, 48, .inl (cs_I zc 0))), (cs_X zc 0 3, .inl (cA 0, 48, .inl (cs_I zc 1))), (cs_X zc 0 4, .inl (cA 0, 48, .inl (cs_I zc 0))), (cs_X zc 0 5, .inl (cA 0, 48, .inl (cs_I zc 1)))] H := hP
          have hD : va_D _ [cTP zc, (cs_X zc 0 1, .inr (3, [.ref (cs_X zc 0 2), .ref (cs_X zc 0 3), .ref (cs_X zc 0 4), .ref (cs_X zc 0 5), .int (cs_i zc 0)])), (cs_X zc 0 2, .inl (cA 0, 48, .inl (cs_I zc 0))), (cs_X zc 0 3, .inl (cA 0, 48, .inl (cs_I zc 1))), (cs_X zc 0 4, .inl (cA 0, 48, .inl (cs_I zc 0))), (cs_X zc 0 5, .inl (cA 0, 48, .inl (cs_I zc 1)))] := hD
          refine lv_aload_n hx hb dX10_find_49 rfl (lv_at hl 0 rfl) ?_
          refine va_get (D := (dC, dI)) (ci := 10) (v := .ref (cs_X zc 0 1)) (C := RX10) (T := TX10) (N := 13) hx hb hts hiX10 hown hK hP 0 rfl rfl 0 (by decide) (hts (.fieldLink RX10 12 "TributePitches" "lode" "LTributePitches$Lode;") (List.mem_of_getElem? (i := 1) rfl)) (fun _ h9 => h9) rfl dX10_find_50 ?_
          refine lv_iload_n hx hb dX10_find_53 rfl (lv_at hl 1 rfl) ?_
          refine lv_iload_n hx hb dX10_find_54 rfl (lv_at hl 2 rfl) ?_
          refine vp_callSi (va_Run.run (va_runS (As := [.int x, .int y]) (rest := [.ref (cs_X zc 0 1)]) ⟨hx, hb, hml, hown, hts⟩ (c_X3_numberOf l x y ) (va_cwS 2 hts gX10_find_X3_numberOf rfl rfl rfl (by decide +kernel) ⟨Nat.le_of_ble_eq_true rfl, Nat.le_of_ble_eq_true rfl⟩) (p0_preS hN) rfl rfl hl.1 rfl (lv_room (Nat.le_of_ble_eq_true rfl)) dX10_find_55 ⟨Nat.le_of_ble_eq_true rfl, Nat.le_of_ble_eq_true rfl⟩)) (fun r9 hr9 => ?_)
          have hr9 : r9 = 8 * y + x := hr9
          obtain ⟨sq, hsq, esq⟩ := sqN c2
          rw [esq] at hr9
          subst hr9
          refine lv_iload_n hx hb dX10_find_58 rfl (lv_at hl 3 rfl) ?_
          refine lv_iload hx hb dX10_find_59 (lv_at hl 4 rfl) ?_
          have hPc := hP.sub (ws' := [(cs_X zc 0 1, .inr (3, [.ref (cs_X zc 0 2), .ref (cs_X zc 0 3), .ref (cs_X zc 0 4), .ref (cs_X zc 0 5), .int (cs_i zc 0)])), (cs_X zc 0 4, .inl (cA 0, 48, .inl (cs_I zc 0))), (cs_X zc 0 5, .inl (cA 0, 48, .inl (cs_I zc 1)))]) [1, 4, 5] rfl
          have hDc := hD.sub (ws' := [(cs_X zc 0 1, .inr (3, [.ref (cs_X zc 0 2), .ref (cs_X zc 0 3), .ref (cs_X zc 0 4), .ref (cs_X zc 0 5), .int (cs_i zc 0)])), (cs_X zc 0 4, .inl (cA 0, 48, .inl (cs_I zc 0))), (cs_X zc 0 5, .inl (cA 0, 48, .inl (cs_I zc 1)))]) [1, 4, 5] (by decide) rfl
          have hKc := hK.sub (tys' := [(cA 0, .int)]) [0] rfl
          have hFc := va_free (wc := [(cs_X zc 0 1, .inr (3, [.ref (cs_X zc 0 2), .ref (cs_X zc 0 3), .ref (cs_X zc 0 4), .ref (cs_X zc 0 5), .int (cs_i zc 0)])), (cs_X zc 0 4, .inl (cA 0, 48, .inl (cs_I zc 0))), (cs_X zc 0 5, .inl (cA 0, 48, .inl (cs_I zc 1)))]) hD hS hA [1, 4, 5] rfl
          refine va_callv (va_runV (As := [.int (nI sq), .int lo, .int hi]) (rest := []) ⟨hx, hb, hml, hown, hts⟩ (s_tryCommon l dC dI (cA 0) _ (cs_X zc 0 1) (cs_X zc 0 4) (cs_X zc 0 5) sq (.ref (cs_X zc 0 2)) (.ref (cs_X zc 0 3)) (.int (cs_i zc 0)) lo hi (cs_I zc 0) (cs_I zc 1) hsq) (cwV 3 hts gX10_find_X3_tryCommon rfl rfl rfl (by decide +kernel) ⟨Nat.le_of_ble_eq_true rfl, Nat.le_of_ble_eq_true rfl⟩) (pw_preV (va_recv hKc hPc (ci := 3) (q0 := 0) rfl rfl) hPc hKc hDc hN) rfl rfl hl.1 rfl (lv_room (Nat.le_of_ble_eq_true rfl)) dX10_find_61 ⟨Nat.le_of_ble_eq_true rfl, Nat.le_of_ble_eq_true rfl⟩) hS (fun q _ h => hFc q h) hFc (fun u t H1 locs ht hvm hw hB hz1 hk1 hS => ?_)
          obtain ⟨hP1, hK1, hD1⟩ := hB
          rw [ht] at hP1
          obtain ⟨hP, hD⟩ := va_join (wr := [cTP zc, (cs_X zc 0 2, .inl (cA 0, 48, .inl (cs_I zc 0))), (cs_X zc 0 3, .inl (cA 0, 48, .inl (cs_I zc 1)))]) (w1 := [(cs_X zc 0 1, .inr (3, [.ref (cs_X zc 0 2), .ref (cs_X zc 0 3), .ref (cs_X zc 0 4), .ref (cs_X zc 0 5), .int (cs_i zc 0)])), (cs_X zc 0 4, .inl (cA 0, 48, .inl (tcL sq lo (cs_I zc 0)))), (cs_X zc 0 5, .inl (cA 0, 48, .inl (tcH sq hi (cs_I zc 1))))]) hP hD [1, 4, 5] [0, 2, 3] rfl rfl (by decide) (by decide) hk1 hFc hP1 hD1
          generalize H1 = H at hP hS ⊢
          have hP : va_P (dC, dI) vwCl [cTP zc, (cs_X zc 0 2, .inl (cA 0, 48, .inl (cs_I zc 0))), (cs_X zc 0 3, .inl (cA 0, 48, .inl (cs_I zc 1))), (cs_X zc 0 1, .inr (3, [.ref (cs_X zc 0 2), .ref (cs_X zc 0 3), .ref (cs_X zc 0 4), .ref (cs_X zc 0 5), .int (cs_i zc 0)])), (cs_X zc 0 4, .inl (cA 0, 48, .inl (tcL sq lo (cs_I zc 0)))), (cs_X zc 0 5, .inl (cA 0, 48, .inl (tcH sq hi (cs_I zc 1))))] H := hP
          have hD : va_D _ [cTP zc, (cs_X zc 0 2, .inl (cA 0, 48, .inl (cs_I zc 0))), (cs_X zc 0 3, .inl (cA 0, 48, .inl (cs_I zc 1))), (cs_X zc 0 1, .inr (3, [.ref (cs_X zc 0 2), .ref (cs_X zc 0 3), .ref (cs_X zc 0 4), .ref (cs_X zc 0 5), .int (cs_i zc 0)])), (cs_X zc 0 4, .inl (cA 0, 48, .inl (tcL sq lo (cs_I zc 0)))), (cs_X zc 0 5, .inl (cA 0, 48, .inl (tcH sq hi (cs_I zc 1))))] := hD
          refine lv_aload_n hx hb dX10_find_64 rfl (lv_at hl 0 rfl) ?_
          refine va_get (D := (dC, dI)) (ci := 10) (v := .ref (cs_X zc 0 1)) (C := RX10) (T := TX10) (N := 13) hx hb hts hiX10 hown hK hP 0 rfl rfl 0 (by decide) (hts (.fieldLink RX10 12 "TributePitches" "lode" "LTributePitches$Lode;") (List.mem_of_getElem? (i := 1) rfl)) (fun _ h9 => h9) rfl dX10_find_65 ?_
          refine lv_aload_n hx hb dX10_find_68 rfl (lv_at hl 0 rfl) ?_
          refine va_get (D := (dC, dI)) (ci := 10) (v := .ref (cs_X zc 0 1)) (C := RX10) (T := TX10) (N := 13) hx hb hts hiX10 hown hK hP 0 rfl rfl 0 (by decide) (hts (.fieldLink RX10 12 "TributePitches" "lode" "LTributePitches$Lode;") (List.mem_of_getElem? (i := 1) rfl)) (fun _ h9 => h9) rfl dX10_find_69 ?_
          refine va_get (D := (dC, dI)) (ci := 3) (v := .int (cs_i zc 0)) (C := RX3) (T := TX3) (N := 5) hx hb hts hiX3 hown hK hP 3 rfl rfl 4 (by decide) (hts (.fieldLink RX10 79 "TributePitches$Lode" "law" "I") (List.mem_of_getElem? (i := 2) rfl)) (fun _ h9 => h9) rfl dX10_find_72 ?_
          have hPc := hP.sub (ws' := [(cs_X zc 0 1, .inr (3, [.ref (cs_X zc 0 2), .ref (cs_X zc 0 3), .ref (cs_X zc 0 4), .ref (cs_X zc 0 5), .int (cs_i zc 0)])), (cs_X zc 0 2, .inl (cA 0, 48, .inl (cs_I zc 0))), (cs_X zc 0 3, .inl (cA 0, 48, .inl (cs_I zc 1))), (cs_X zc 0 4, .inl (cA 0, 48, .inl (tcL sq lo (cs_I zc 0)))), (cs_X zc 0 5, .inl (cA 0, 48, .inl (tcH sq hi (cs_I zc 1))))]) [3, 1, 2, 4, 5] rfl
          have hDc := hD.sub (ws' := [(cs_X zc 0 1, .inr (3, [.ref (cs_X zc 0 2), .ref (cs_X zc 0 3), .ref (cs_X zc 0 4), .ref (cs_X zc 0 5), .int (cs_i zc 0)])), (cs_X zc 0 2, .inl (cA 0, 48, .inl (cs_I zc 0))), (cs_X zc 0 3, .inl (cA 0, 48, .inl (cs_I zc 1))), (cs_X zc 0 4, .inl (cA 0, 48, .inl (tcL sq lo (cs_I zc 0)))), (cs_X zc 0 5, .inl (cA 0, 48, .inl (tcH sq hi (cs_I zc 1))))]) [3, 1, 2, 4, 5] (by decide) rfl
          have hKc := hK.sub (tys' := [(cA 0, .int)]) [0] rfl
          have hFc := va_free (wc := [(cs_X zc 0 1, .inr (3, [.ref (cs_X zc 0 2), .ref (cs_X zc 0 3), .ref (cs_X zc 0 4), .ref (cs_X zc 0 5), .int (cs_i zc 0)])), (cs_X zc 0 2, .inl (cA 0, 48, .inl (cs_I zc 0))), (cs_X zc 0 3, .inl (cA 0, 48, .inl (cs_I zc 1))), (cs_X zc 0 4, .inl (cA 0, 48, .inl (tcL sq lo (cs_I zc 0)))), (cs_X zc 0 5, .inl (cA 0, 48, .inl (tcH sq hi (cs_I zc 1))))]) hD hS hA [3, 1, 2, 4, 5] rfl
          refine va_calli (va_runV (As := [.int (cs_i zc 0)]) (rest := []) ⟨hx, hb, hml, hown, hts⟩ (s_endTrial l dC dI (cA 0) _ (cs_X zc 0 1) (cs_X zc 0 2) (cs_X zc 0 3) (cs_X zc 0 4) (cs_X zc 0 5) (cs_i zc 0) (cs_i zc 0) (cs_I zc 0) (cs_I zc 1) (tcL sq lo (cs_I zc 0)) (tcH sq hi (cs_I zc 1)) ) (cwV 1 hts gX10_find_X3_endTrial rfl rfl rfl (by decide +kernel) ⟨Nat.le_of_ble_eq_true rfl, Nat.le_of_ble_eq_true rfl⟩) (pw_preV (va_recv hKc hPc (ci := 3) (q0 := 0) rfl rfl) hPc hKc hDc hN) rfl rfl hl.1 rfl (lv_room (Nat.le_of_ble_eq_true rfl)) dX10_find_75 ⟨Nat.le_of_ble_eq_true rfl, Nat.le_of_ble_eq_true rfl⟩) hS (fun q _ h => hFc q h) hFc (fun r11 u t H1 locs ht hvm hw hB hz1 hk1 hS => ?_)
          obtain ⟨fl1_12, fh1_13, la1_14, tl1_15, th1_16⟩ := u
          have hr11 : (tl1_15 = dnL (cs_i zc 0) (swL (cs_i zc 0) (tcL sq lo (cs_I zc 0)) 48) 48 ∧ th1_16 = dnH (cs_i zc 0) (swH (cs_i zc 0) (tcH sq hi (cs_I zc 1)) 48) 48) ∧ ((r11 = -3 ∧ (∃ j, j < 48 ∧ th1_16 j < tl1_15 j) ∧ fl1_12 = (cs_I zc 0) ∧ fh1_13 = (cs_I zc 1) ∧ la1_14 = (cs_i zc 0)) ∨ (r11 = nI (fa_cnt (chg (cs_I zc 0) (cs_I zc 1) tl1_15 th1_16) 48) ∧ (∀ j, j < 48 → ¬ th1_16 j < tl1_15 j) ∧ fl1_12 = tl1_15 ∧ fh1_13 = th1_16 ∧ la1_14 = (cs_i zc 0))) := hw
          obtain ⟨hP1, hK1, hD1⟩ := hB
          rw [ht] at hP1
          obtain ⟨hP, hD⟩ := va_join (wr := [cTP zc]) (w1 := [(cs_X zc 0 1, .inr (3, [.ref (cs_X zc 0 2), .ref (cs_X zc 0 3), .ref (cs_X zc 0 4), .ref (cs_X zc 0 5), .int la1_14])), (cs_X zc 0 2, .inl (cA 0, 48, .inl fl1_12)), (cs_X zc 0 3, .inl (cA 0, 48, .inl fh1_13)), (cs_X zc 0 4, .inl (cA 0, 48, .inl tl1_15)), (cs_X zc 0 5, .inl (cA 0, 48, .inl th1_16))]) hP hD [3, 1, 2, 4, 5] [0] rfl rfl (by decide) (by decide) hk1 hFc hP1 hD1
          generalize H1 = H at hP hS ⊢
          have hP : va_P (dC, dI) vwCl [cTP zc, (cs_X zc 0 1, .inr (3, [.ref (cs_X zc 0 2), .ref (cs_X zc 0 3), .ref (cs_X zc 0 4), .ref (cs_X zc 0 5), .int la1_14])), (cs_X zc 0 2, .inl (cA 0, 48, .inl fl1_12)), (cs_X zc 0 3, .inl (cA 0, 48, .inl fh1_13)), (cs_X zc 0 4, .inl (cA 0, 48, .inl tl1_15)), (cs_X zc 0 5, .inl (cA 0, 48, .inl th1_16))] H := hP
          have hD : va_D _ [cTP zc, (cs_X zc 0 1, .inr (3, [.ref (cs_X zc 0 2), .ref (cs_X zc 0 3), .ref (cs_X zc 0 4), .ref (cs_X zc 0 5), .int la1_14])), (cs_X zc 0 2, .inl (cA 0, 48, .inl fl1_12)), (cs_X zc 0 3, .inl (cA 0, 48, .inl fh1_13)), (cs_X zc 0 4, .inl (cA 0, 48, .inl tl1_15)), (cs_X zc 0 5, .inl (cA 0, 48, .inl th1_16))] := hD
          subst hQ
          have hP9 : va_P (dC, dI) vwCl [cTP zc, (cs_X zc 0 1, .inr (3, [.ref (cs_X zc 0 2), .ref (cs_X zc 0 3), .ref (cs_X zc 0 4), .ref (cs_X zc 0 5), .int la1_14])), (cs_X zc 0 2, .inl (cA 0, 48, .inl fl1_12)), (cs_X zc 0 3, .inl (cA 0, 48, .inl fh1_13)), (cs_X zc 0 4, .inl (cA 0, 48, .inl tl1_15)), (cs_X zc 0 5, .inl (cA 0, 48, .inl th1_16))] H := hP.sub [0, 1, 2, 3, 4, 5] rfl
          have hD9 : va_D (va_A [cTP zc, cLo zc, cA2 cA zc, cA3 cA zc, cA4 cA zc, cA5 cA zc] s.heap.size) [cTP zc, (cs_X zc 0 1, .inr (3, [.ref (cs_X zc 0 2), .ref (cs_X zc 0 3), .ref (cs_X zc 0 4), .ref (cs_X zc 0 5), .int la1_14])), (cs_X zc 0 2, .inl (cA 0, 48, .inl fl1_12)), (cs_X zc 0 3, .inl (cA 0, 48, .inl fh1_13)), (cs_X zc 0 4, .inl (cA 0, 48, .inl tl1_15)), (cs_X zc 0 5, .inl (cA 0, 48, .inl th1_16))] := hD.sub [0, 1, 2, 3, 4, 5] (by decide) rfl
          have hlf := lf_find_2 cA zc x y lo hi sq fl1_12 fh1_13 la1_14 tl1_15 th1_16 r11 c2 c4 c6 c7 hsq esq hr11 hI
          exact W.iret (v := r11) hx hb hr (fun t ht hW => have hJ := kjoin hPk hDk hks rfl (hS.F ht) (by rw [ht]; exact hP9) hD9 hlf.2.1 hlf.2.2; ⟨⟨r11, (va_up (cs_i zc) 0 la1_14, cs_n zc, va_up (va_up (va_up (va_up (cs_I zc) 0 fl1_12) 1 fh1_13) 2 tl1_15) 3 th1_16, cs_L zc, cs_N zc, cs_S zc, cs_X zc), rfl, ⟨⟨hlf.1, rfl⟩, (Or.inr (Or.inr (Or.inl ⟨c2, c4, c6, c7, sq, hsq, esq, fl1_12, fh1_13, la1_14, tl1_15, th1_16, r11, hr11, rfl, rfl⟩)))⟩, hJ.1, va_K.moved hW.alike hKk, hJ.2.1⟩, hJ.2.2⟩) (fun q h => kAll_A hks _ (hS.2.2 q h)) dX10_find_78
        · skip
          refine lv_bipush (v := (-2)) hx hb dX10_find_39 (by decide) ?_
          subst hQ
          exact W.iret (v := (-2)) hx hb hr (fun t ht hW => ⟨⟨(-2), zc, rfl, ⟨⟨hI, rfl⟩, (Or.inr (Or.inr (Or.inr (Or.inl ⟨c2, c4, c6, c7, rfl, rfl⟩))))⟩, (by rw [ht]; exact hPk), va_K.moved hW.alike hKk, kDA_self hDk⟩, (kw_same hPk ht).2⟩) (fun q h => absurd h List.not_mem_nil) dX10_find_41
  · skip
    have c2 := (fa_bool_prop hr1).1.mp c2
    refine lv_iconst (v := (-1)) hx hb dX10_find_8 (by decide) ?_
    subst hQ
    exact W.iret (v := (-1)) hx hb hr (fun t ht hW => ⟨⟨(-1), zc, rfl, ⟨⟨hI, rfl⟩, (Or.inr (Or.inr (Or.inr (Or.inr ⟨c2, rfl, rfl⟩))))⟩, (by rw [ht]; exact hPk), va_K.moved hW.alike hKk, kDA_self hDk⟩, (kw_same hPk ht).2⟩) (fun q h => absurd h List.not_mem_nil) dX10_find_9
def pC_rise (zc : CS) (dd : Int32) (r : Int32) (u : CS) : Prop :=
  ((0 ≤ dd ∧ dd ≤ 1000) ∧ (dd ≤ (cs_i zc 0)) ∧ ∃ fl1_6 : Nat → Int32, ∃ fh1_7 : Nat → Int32, ∃ la1_8 : Int32, ∃ tl1_9 : Nat → Int32, ∃ th1_10 : Nat → Int32, ∃ r5 : Int32, ((tl1_9 = dnL dd (swL dd (cs_I zc 0) 48) 48 ∧ th1_10 = dnH dd (swH dd (cs_I zc 1) 48) 48) ∧ ((r5 = -3 ∧ (∃ j, j < 48 ∧ th1_10 j < tl1_9 j) ∧ fl1_6 = (cs_I zc 0) ∧ fh1_7 = (cs_I zc 1) ∧ la1_8 = (cs_i zc 0)) ∨ (r5 = nI (fa_cnt (chg (cs_I zc 0) (cs_I zc 1) tl1_9 th1_10) 48) ∧ (∀ j, j < 48 → ¬ th1_10 j < tl1_9 j) ∧ fl1_6 = tl1_9 ∧ fh1_7 = th1_10 ∧ la1_8 = dd))) ∧ r = (r5) ∧ u = (va_up (cs_i zc) 0 la1_8, cs_n zc, va_up (va_up (va_up (va_up (cs_I zc) 0 fl1_6) 1 fh1_7) 2 tl1_9) 3 th1_10, cs_L zc, cs_N zc, cs_S zc, cs_X zc)) ∨
  ((0 ≤ dd ∧ dd ≤ 1000) ∧ (¬ dd ≤ (cs_i zc 0)) ∧ r = ((-3)) ∧ u = zc) ∨
  ((¬ (0 ≤ dd ∧ dd ≤ 1000)) ∧ r = ((-2)) ∧ u = zc)
set_option maxHeartbeats 4000000 in
theorem lf_rise_0 (cA : Nat → ClassId) (zc : CS) (dd : Int32) (fl1_6 : Nat → Int32) (fh1_7 : Nat → Int32) (la1_8 : Int32) (tl1_9 : Nat → Int32) (th1_10 : Nat → Int32) (r5 : Int32) (c2 : 0 ≤ dd ∧ dd ≤ 1000) (c3 : dd ≤ (cs_i zc 0)) (hr5 : (tl1_9 = dnL dd (swL dd (cs_I zc 0) 48) 48 ∧ th1_10 = dnH dd (swH dd (cs_I zc 1) 48) 48) ∧ ((r5 = -3 ∧ (∃ j, j < 48 ∧ th1_10 j < tl1_9 j) ∧ fl1_6 = (cs_I zc 0) ∧ fh1_7 = (cs_I zc 1) ∧ la1_8 = (cs_i zc 0)) ∨ (r5 = nI (fa_cnt (chg (cs_I zc 0) (cs_I zc 1) tl1_9 th1_10) 48) ∧ (∀ j, j < 48 → ¬ th1_10 j < tl1_9 j) ∧ fl1_6 = tl1_9 ∧ fh1_7 = th1_10 ∧ la1_8 = dd))) (hI : invC zc) : invC (va_up (cs_i zc) 0 la1_8, cs_n zc, va_up (va_up (va_up (va_up (cs_I zc) 0 fl1_6) 1 fh1_7) 2 tl1_9) 3 th1_10, cs_L zc, cs_N zc, cs_S zc, cs_X zc) ∧ kAll (cF cA (va_up (cs_i zc) 0 la1_8, cs_n zc, va_up (va_up (va_up (va_up (cs_I zc) 0 fl1_6) 1 fh1_7) 2 tl1_9) 3 th1_10, cs_L zc, cs_N zc, cs_S zc, cs_X zc)) [(0, 0), (0, 1), (0, 2), (0, 3), (0, 4), (0, 5)] [cTP zc, (cs_X zc 0 1, .inr (3, [.ref (cs_X zc 0 2), .ref (cs_X zc 0 3), .ref (cs_X zc 0 4), .ref (cs_X zc 0 5), .int la1_8])), (cs_X zc 0 2, .inl (cA 0, 48, .inl fl1_6)), (cs_X zc 0 3, .inl (cA 0, 48, .inl fh1_7)), (cs_X zc 0 4, .inl (cA 0, 48, .inl tl1_9)), (cs_X zc 0 5, .inl (cA 0, 48, .inl th1_10))] ∧ ∀ i j, (i, j) ∉ ([(0, 0), (0, 1), (0, 2), (0, 3), (0, 4), (0, 5)] : List (Nat × Nat)) → cF cA (va_up (cs_i zc) 0 la1_8, cs_n zc, va_up (va_up (va_up (va_up (cs_I zc) 0 fl1_6) 1 fh1_7) 2 tl1_9) 3 th1_10, cs_L zc, cs_N zc, cs_S zc, cs_X zc) i j = none ∨ ((i, j) ∉ ([(0, 0), (0, 1), (0, 2), (0, 3), (0, 4), (0, 5)] : List (Nat × Nat)) ∧ cF cA (va_up (cs_i zc) 0 la1_8, cs_n zc, va_up (va_up (va_up (va_up (cs_I zc) 0 fl1_6) 1 fh1_7) 2 tl1_9) 3 th1_10, cs_L zc, cs_N zc, cs_S zc, cs_X zc) i j = cF cA zc i j) := by
  obtain ⟨⟨hn0, hn1, hn2, hn3, hn4, hn5⟩, hpi, hgk, htk, hpk, hsh⟩ := id hI
  refine ⟨hI, ⟨(by (rw [(kF_tp (cA := cA) (z := (va_up (cs_i zc) 0 la1_8, cs_n zc, va_up (va_up (va_up (va_up (cs_I zc) 0 fl1_6) 1 fh1_7) 2 tl1_9) 3 th1_10, cs_L zc, cs_N zc, cs_S zc, cs_X zc)))]) <;> simp [cTP, cTPN, cTPA, cLo, cA2, cA3, cA4, cA5, cR6, cR7, cR8, cR9, cR10, cTr, cPi, cPiN, cPiT, cGa, cGaK, cTa, cPa, cAu, cAuN, cAuB, cSh, cSc, cs_i, cs_n, cs_I, cs_L, cs_N, cs_S, cs_X, va_up, upd, opN]), (by (rw [(kF_lo (cA := cA) (z := (va_up (cs_i zc) 0 la1_8, cs_n zc, va_up (va_up (va_up (va_up (cs_I zc) 0 fl1_6) 1 fh1_7) 2 tl1_9) 3 th1_10, cs_L zc, cs_N zc, cs_S zc, cs_X zc)))]) <;> simp [cTP, cTPN, cTPA, cLo, cA2, cA3, cA4, cA5, cR6, cR7, cR8, cR9, cR10, cTr, cPi, cPiN, cPiT, cGa, cGaK, cTa, cPa, cAu, cAuN, cAuB, cSh, cSc, cs_i, cs_n, cs_I, cs_L, cs_N, cs_S, cs_X, va_up, upd, opN]), (by (rw [(kF_a2 (cA := cA) (z := (va_up (cs_i zc) 0 la1_8, cs_n zc, va_up (va_up (va_up (va_up (cs_I zc) 0 fl1_6) 1 fh1_7) 2 tl1_9) 3 th1_10, cs_L zc, cs_N zc, cs_S zc, cs_X zc)))]) <;> simp [cTP, cTPN, cTPA, cLo, cA2, cA3, cA4, cA5, cR6, cR7, cR8, cR9, cR10, cTr, cPi, cPiN, cPiT, cGa, cGaK, cTa, cPa, cAu, cAuN, cAuB, cSh, cSc, cs_i, cs_n, cs_I, cs_L, cs_N, cs_S, cs_X, va_up, upd, opN]), (by (rw [(kF_a3 (cA := cA) (z := (va_up (cs_i zc) 0 la1_8, cs_n zc, va_up (va_up (va_up (va_up (cs_I zc) 0 fl1_6) 1 fh1_7) 2 tl1_9) 3 th1_10, cs_L zc, cs_N zc, cs_S zc, cs_X zc)))]) <;> simp [cTP, cTPN, cTPA, cLo, cA2, cA3, cA4, cA5, cR6, cR7, cR8, cR9, cR10, cTr, cPi, cPiN, cPiT, cGa, cGaK, cTa, cPa, cAu, cAuN, cAuB, cSh, cSc, cs_i, cs_n, cs_I, cs_L, cs_N, cs_S, cs_X, va_up, upd, opN]), (by (rw [(kF_a4 (cA := cA) (z := (va_up (cs_i zc) 0 la1_8, cs_n zc, va_up (va_up (va_up (va_up (cs_I zc) 0 fl1_6) 1 fh1_7) 2 tl1_9) 3 th1_10, cs_L zc, cs_N zc, cs_S zc, cs_X zc)))]) <;> simp [cTP, cTPN, cTPA, cLo, cA2, cA3, cA4, cA5, cR6, cR7, cR8, cR9, cR10, cTr, cPi, cPiN, cPiT, cGa, cGaK, cTa, cPa, cAu, cAuN, cAuB, cSh, cSc, cs_i, cs_n, cs_I, cs_L, cs_N, cs_S, cs_X, va_up, upd, opN]), (by (rw [(kF_a5 (cA := cA) (z := (va_up (cs_i zc) 0 la1_8, cs_n zc, va_up (va_up (va_up (va_up (cs_I zc) 0 fl1_6) 1 fh1_7) 2 tl1_9) 3 th1_10, cs_L zc, cs_N zc, cs_S zc, cs_X zc)))]) <;> simp [cTP, cTPN, cTPA, cLo, cA2, cA3, cA4, cA5, cR6, cR7, cR8, cR9, cR10, cTr, cPi, cPiN, cPiT, cGa, cGaK, cTa, cPa, cAu, cAuN, cAuB, cSh, cSc, cs_i, cs_n, cs_I, cs_L, cs_N, cs_S, cs_X, va_up, upd, opN]), trivial⟩, ?_⟩
  intro i j hij
  refine Or.inr ⟨hij, ?_⟩
  rcases i with _ | _ | _ | _ | _ | _ | _ | _ | i
  · rcases j with _ | _ | _ | _ | _ | _ | _ | _ | _ | _ | _ | _ | j
    · exact absurd (by simp) hij
    · exact absurd (by simp) hij
    · exact absurd (by simp) hij
    · exact absurd (by simp) hij
    · exact absurd (by simp) hij
    · exact absurd (by simp) hij
    · show some (cR6 cA (va_up (cs_i zc) 0 la1_8, cs_n zc, va_up (va_up (va_up (va_up (cs_I zc) 0 fl1_6) 1 fh1_7) 2 tl1_9) 3 th1_10, cs_L zc, cs_N zc, cs_S zc, cs_X zc)) = some (cR6 cA zc); simp [cR6, cs_i, cs_n, cs_I, cs_L, cs_N, cs_S, cs_X, va_up]
    · show some (cR7 cA (va_up (cs_i zc) 0 la1_8, cs_n zc, va_up (va_up (va_up (va_up (cs_I zc) 0 fl1_6) 1 fh1_7) 2 tl1_9) 3 th1_10, cs_L zc, cs_N zc, cs_S zc, cs_X zc)) = some (cR7 cA zc); simp [cR7, cs_i, cs_n, cs_I, cs_L, cs_N, cs_S, cs_X, va_up]
    · show some (cR8 cA (va_up (cs_i zc) 0 la1_8, cs_n zc, va_up (va_up (va_up (va_up (cs_I zc) 0 fl1_6) 1 fh1_7) 2 tl1_9) 3 th1_10, cs_L zc, cs_N zc, cs_S zc, cs_X zc)) = some (cR8 cA zc); simp [cR8, cs_i, cs_n, cs_I, cs_L, cs_N, cs_S, cs_X, va_up]
    · show some (cR9 cA (va_up (cs_i zc) 0 la1_8, cs_n zc, va_up (va_up (va_up (va_up (cs_I zc) 0 fl1_6) 1 fh1_7) 2 tl1_9) 3 th1_10, cs_L zc, cs_N zc, cs_S zc, cs_X zc)) = some (cR9 cA zc); simp [cR9, cs_i, cs_n, cs_I, cs_L, cs_N, cs_S, cs_X, va_up]
    · show some (cR10 cA (va_up (cs_i zc) 0 la1_8, cs_n zc, va_up (va_up (va_up (va_up (cs_I zc) 0 fl1_6) 1 fh1_7) 2 tl1_9) 3 th1_10, cs_L zc, cs_N zc, cs_S zc, cs_X zc)) = some (cR10 cA zc); simp [cR10, cs_i, cs_n, cs_I, cs_L, cs_N, cs_S, cs_X, va_up]
    · show some (cTr (va_up (cs_i zc) 0 la1_8, cs_n zc, va_up (va_up (va_up (va_up (cs_I zc) 0 fl1_6) 1 fh1_7) 2 tl1_9) 3 th1_10, cs_L zc, cs_N zc, cs_S zc, cs_X zc)) = some (cTr zc); simp [cTr, cs_i, cs_n, cs_I, cs_L, cs_N, cs_S, cs_X, va_up]
    · show (none : Option (Nat × va_E)) = none; rfl
  · show (if j < cs_n (va_up (cs_i zc) 0 la1_8, cs_n zc, va_up (va_up (va_up (va_up (cs_I zc) 0 fl1_6) 1 fh1_7) 2 tl1_9) 3 th1_10, cs_L zc, cs_N zc, cs_S zc, cs_X zc) 0 then some (cPi (va_up (cs_i zc) 0 la1_8, cs_n zc, va_up (va_up (va_up (va_up (cs_I zc) 0 fl1_6) 1 fh1_7) 2 tl1_9) 3 th1_10, cs_L zc, cs_N zc, cs_S zc, cs_X zc) j) else none) = if j < cs_n zc 0 then some (cPi zc j) else none
    simp [cPi, cs_i, cs_n, cs_I, cs_L, cs_N, cs_S, cs_X, va_up]
  · show (if j < cs_n (va_up (cs_i zc) 0 la1_8, cs_n zc, va_up (va_up (va_up (va_up (cs_I zc) 0 fl1_6) 1 fh1_7) 2 tl1_9) 3 th1_10, cs_L zc, cs_N zc, cs_S zc, cs_X zc) 1 then some (cGa (va_up (cs_i zc) 0 la1_8, cs_n zc, va_up (va_up (va_up (va_up (cs_I zc) 0 fl1_6) 1 fh1_7) 2 tl1_9) 3 th1_10, cs_L zc, cs_N zc, cs_S zc, cs_X zc) j) else none) = if j < cs_n zc 1 then some (cGa zc j) else none
    simp [cGa, cs_i, cs_n, cs_I, cs_L, cs_N, cs_S, cs_X, va_up]
  · show (if j < cs_n (va_up (cs_i zc) 0 la1_8, cs_n zc, va_up (va_up (va_up (va_up (cs_I zc) 0 fl1_6) 1 fh1_7) 2 tl1_9) 3 th1_10, cs_L zc, cs_N zc, cs_S zc, cs_X zc) 2 then some (cTa (va_up (cs_i zc) 0 la1_8, cs_n zc, va_up (va_up (va_up (va_up (cs_I zc) 0 fl1_6) 1 fh1_7) 2 tl1_9) 3 th1_10, cs_L zc, cs_N zc, cs_S zc, cs_X zc) j) else none) = if j < cs_n zc 2 then some (cTa zc j) else none
    simp [cTa, cs_i, cs_n, cs_I, cs_L, cs_N, cs_S, cs_X, va_up]
  · show (if j < cs_n (va_up (cs_i zc) 0 la1_8, cs_n zc, va_up (va_up (va_up (va_up (cs_I zc) 0 fl1_6) 1 fh1_7) 2 tl1_9) 3 th1_10, cs_L zc, cs_N zc, cs_S zc, cs_X zc) 3 then some (cPa (va_up (cs_i zc) 0 la1_8, cs_n zc, va_up (va_up (va_up (va_up (cs_I zc) 0 fl1_6) 1 fh1_7) 2 tl1_9) 3 th1_10, cs_L zc, cs_N zc, cs_S zc, cs_X zc) j) else none) = if j < cs_n zc 3 then some (cPa zc j) else none
    simp [cPa, cs_i, cs_n, cs_I, cs_L, cs_N, cs_S, cs_X, va_up]
  · show (if j = 0 ∧ ¬ cs_n (va_up (cs_i zc) 0 la1_8, cs_n zc, va_up (va_up (va_up (va_up (cs_I zc) 0 fl1_6) 1 fh1_7) 2 tl1_9) 3 th1_10, cs_L zc, cs_N zc, cs_S zc, cs_X zc) 4 = 0 then some (cAu (va_up (cs_i zc) 0 la1_8, cs_n zc, va_up (va_up (va_up (va_up (cs_I zc) 0 fl1_6) 1 fh1_7) 2 tl1_9) 3 th1_10, cs_L zc, cs_N zc, cs_S zc, cs_X zc)) else none) = if j = 0 ∧ ¬ cs_n zc 4 = 0 then some (cAu zc) else none
    simp [cAu, cs_i, cs_n, cs_I, cs_L, cs_N, cs_S, cs_X, va_up]
  · show (if j < 4 then some (cSh (va_up (cs_i zc) 0 la1_8, cs_n zc, va_up (va_up (va_up (va_up (cs_I zc) 0 fl1_6) 1 fh1_7) 2 tl1_9) 3 th1_10, cs_L zc, cs_N zc, cs_S zc, cs_X zc) j) else none) = if j < 4 then some (cSh zc j) else none
    simp [cSh, cs_i, cs_n, cs_I, cs_L, cs_N, cs_S, cs_X, va_up]
  · show (if j < 4 then some (cSc cA (va_up (cs_i zc) 0 la1_8, cs_n zc, va_up (va_up (va_up (va_up (cs_I zc) 0 fl1_6) 1 fh1_7) 2 tl1_9) 3 th1_10, cs_L zc, cs_N zc, cs_S zc, cs_X zc) j) else none) = if j < 4 then some (cSc cA zc j) else none
    simp [cSc, cs_i, cs_n, cs_I, cs_L, cs_N, cs_S, cs_X, va_up]
  · show (none : Option (Nat × va_E)) = none; rfl
set_option maxHeartbeats 4000000 in
set_option maxRecDepth 100000 in
theorem K_rise (l : Launch) (dC : Nat → ClassId) (dI : Nat → Nat → Nat) (cA : Nat → ClassId) (sz : Nat) (zc : CS) (dd : Int32) (hI : invC zc) : Met l yX10_rise wsX10_rise ({ frames := 5, cells := 0, slots := 0, locals := 150 }) (kw (dC, dI) (ctys cA) (cF cA zc) sz [.ref (cs_X zc 0 0), .int dd]) (kQi (dC, dI) (ctys cA) (cF cA zc) sz (cF cA) (fun r u => (invC u ∧ cs_X u 0 0 = cs_X zc 0 0) ∧ pC_rise zc dd r u)) 0 0 (kA (cF cA zc) sz) := by
  refine kw_met (cc := cX10_rise) (maxL := 2) (ret := (some .int)) (by decide) rfl (Nat.le_of_ble_eq_true rfl) ?_
  intro p e s m below meth c0 hx hb hr hml hown hlocks hnm hts hPk hKk hDk hN hsz ls hl
  subst hsz
  have hK : va_K (dC, dI) vwCl [(cA 0, .int), (cA 1, .object RX6), (cA 2, .object RX2), (cA 3, .object RX8), (cA 4, .object RX5), (cA 5, .object RX7)] s := hKk
  obtain ⟨⟨hn0, hn1, hn2, hn3, hn4, hn5⟩, hpi, hgk, htk, hpk, hsh⟩ := id hI
  have hl : lv_has ls 2 [(0, .ref (cs_X zc 0 0)), (1, .int dd)] := hl
  have hiX10 : ∀ w ∈ wsX100, w ∈ wsX10_rise := fun _ h => List.mem_cons_of_mem _ (List.mem_append_left _ (List.mem_append_right _ (h)))
  have hiX3 : ∀ w ∈ wsX30, w ∈ wsX10_rise := fun _ h => List.mem_cons_of_mem _ (List.mem_append_right _ (h))
  generalize hQ : MQ _ _ _ _ _ _ _ = Q
  have hks : kAll (cF cA zc) [(0, 0), (0, 1), (0, 2), (0, 3), (0, 4), (0, 5)] [cTP zc, cLo zc, cA2 cA zc, cA3 cA zc, cA4 cA zc, cA5 cA zc] := ⟨(kF_tp (cA := cA) (z := zc)), (kF_lo (cA := cA) (z := zc)), (kF_a2 (cA := cA) (z := zc)), (kF_a3 (cA := cA) (z := zc)), (kF_a4 (cA := cA) (z := zc)), (kF_a5 (cA := cA) (z := zc)), trivial⟩
  have hP : va_P (dC, dI) vwCl [cTP zc, cLo zc, cA2 cA zc, cA3 cA zc, cA4 cA zc, cA5 cA zc] s.heap := kAll_P hPk hks
  have hD : va_D (va_A [cTP zc, cLo zc, cA2 cA zc, cA3 cA zc, cA4 cA zc, cA5 cA zc] s.heap.size) [cTP zc, cLo zc, cA2 cA zc, cA3 cA zc, cA4 cA zc, cA5 cA zc] := (kAll_D hDk hks (by simp)).self
  have hA : ∀ q : Nat, s.heap.size ≤ q → va_A [cTP zc, cLo zc, cA2 cA zc, cA3 cA zc, cA4 cA zc, cA5 cA zc] s.heap.size q := fun q h => Or.inr h
  have hS : va_S (va_A [cTP zc, cLo zc, cA2 cA zc, cA3 cA zc, cA4 cA zc, cA5 cA zc] s.heap.size) s.heap s.heap [] := va_S.rf
  refine lv_iload_n hx hb dX10_rise_0 rfl (lv_at hl 1 rfl) ?_
  refine lv_iconst (v := 0) hx hb dX10_rise_1 (by decide) ?_
  refine lv_sipush (v := 1000) hx hb dX10_rise_2 (by decide) ?_
  refine vp_callSi (va_Run.run (va_runS (As := [.int dd, .int 0, .int 1000]) (rest := []) ⟨hx, hb, hml, hown, hts⟩ (c_X10_isWithin l dd 0 1000 ) (va_cwS 3 hts gX10_rise_X10_isWithin rfl rfl rfl (by decide +kernel) ⟨Nat.le_of_ble_eq_true rfl, Nat.le_of_ble_eq_true rfl⟩) (p0_preS hN) rfl rfl hl.1 rfl (lv_room (Nat.le_of_ble_eq_true rfl)) dX10_rise_5 ⟨Nat.le_of_ble_eq_true rfl, Nat.le_of_ble_eq_true rfl⟩)) (fun r1 hr1 => ?_)
  have hr1 : r1 = if 0 ≤ dd ∧ dd ≤ 1000 then 1 else 0 := hr1
  refine lv_if_ne (tgt := 14) hx hb dX10_rise_8 (by decide) (fun c2 => ?_) (fun c2 => ?_)
  · skip
    have c2 := (fa_bool_prop hr1).2.mp c2
    refine lv_iload_n hx hb dX10_rise_14 rfl (lv_at hl 1 rfl) ?_
    refine lv_aload_n hx hb dX10_rise_15 rfl (lv_at hl 0 rfl) ?_
    refine va_get (D := (dC, dI)) (ci := 10) (v := .ref (cs_X zc 0 1)) (C := RX10) (T := TX10) (N := 13) hx hb hts hiX10 hown hK hP 0 rfl rfl 0 (by decide) (hts (.fieldLink RX10 12 "TributePitches" "lode" "LTributePitches$Lode;") (List.mem_of_getElem? (i := 1) rfl)) (fun _ h9 => h9) rfl dX10_rise_16 ?_
    refine va_get (D := (dC, dI)) (ci := 3) (v := .int (cs_i zc 0)) (C := RX3) (T := TX3) (N := 5) hx hb hts hiX3 hown hK hP 1 rfl rfl 4 (by decide) (hts (.fieldLink RX10 79 "TributePitches$Lode" "law" "I") (List.mem_of_getElem? (i := 2) rfl)) (fun _ h9 => h9) rfl dX10_rise_19 ?_
    refine lv_icmp_le (tgt := 28) hx hb dX10_rise_22 (by decide) (fun c3 => ?_) (fun c3 => ?_)
    · skip
      refine lv_aload_n hx hb dX10_rise_28 rfl (lv_at hl 0 rfl) ?_
      refine va_get (D := (dC, dI)) (ci := 10) (v := .ref (cs_X zc 0 1)) (C := RX10) (T := TX10) (N := 13) hx hb hts hiX10 hown hK hP 0 rfl rfl 0 (by decide) (hts (.fieldLink RX10 12 "TributePitches" "lode" "LTributePitches$Lode;") (List.mem_of_getElem? (i := 1) rfl)) (fun _ h9 => h9) rfl dX10_rise_29 ?_
      have hPc := hP.sub (ws' := [cLo zc, cA2 cA zc, cA3 cA zc, cA4 cA zc, cA5 cA zc]) [1, 2, 3, 4, 5] rfl
      have hDc := hD.sub (ws' := [cLo zc, cA2 cA zc, cA3 cA zc, cA4 cA zc, cA5 cA zc]) [1, 2, 3, 4, 5] (by decide) rfl
      have hKc := hK.sub (tys' := [(cA 0, .int)]) [0] rfl
      have hFc := va_free (wc := [cLo zc, cA2 cA zc, cA3 cA zc, cA4 cA zc, cA5 cA zc]) hD hS hA [1, 2, 3, 4, 5] rfl
      refine va_callv (va_runV (As := []) (rest := []) ⟨hx, hb, hml, hown, hts⟩ (c_X3_beginTrial l dC dI (cA 0) _ (cs_X zc 0 1) (cs_X zc 0 2) (cs_X zc 0 3) (cs_X zc 0 4) (cs_X zc 0 5) (cs_i zc 0) (cs_I zc 0) (cs_I zc 1) (cs_I zc 2) (cs_I zc 3) ) (cwV 0 hts gX10_rise_X3_beginTrial rfl rfl rfl (by decide +kernel) ⟨Nat.le_of_ble_eq_true rfl, Nat.le_of_ble_eq_true rfl⟩) (pw_preV (va_recv hKc hPc (ci := 3) (q0 := 0) rfl rfl) hPc hKc hDc hN) rfl rfl hl.1 rfl (lv_room (Nat.le_of_ble_eq_true rfl)) dX10_rise_32 ⟨Nat.le_of_ble_eq_true rfl, Nat.le_of_ble_eq_true rfl⟩) hS (fun q _ h => hFc q h) hFc (fun u t H1 locs ht hvm hw hB hz1 hk1 hS => ?_)
      obtain ⟨hP1, hK1, hD1⟩ := hB
      rw [ht] at hP1
      obtain ⟨hP, hD⟩ := va_join (wr := [cTP zc]) (w1 := [(cs_X zc 0 1, .inr (3, [.ref (cs_X zc 0 2), .ref (cs_X zc 0 3), .ref (cs_X zc 0 4), .ref (cs_X zc 0 5), .int (cs_i zc 0)])), (cs_X zc 0 2, .inl (cA 0, 48, .inl (cs_I zc 0))), (cs_X zc 0 3, .inl (cA 0, 48, .inl (cs_I zc 1))), (cs_X zc 0 4, .inl (cA 0, 48, .inl (cs_I zc 0))), (cs_X zc 0 5, .inl (cA 0, 48, .inl (cs_I zc 1)))]) hP hD [1, 2, 3, 4, 5] [0] rfl rfl (by decide) (by decide) hk1 hFc hP1 hD1
      generalize H1 = H at hP hS ⊢
      have hP : va_P (dC, dI) vwCl [cTP zc, (cs_X zc 0 1, .inr (3, [.ref (cs_X zc 0 2), .ref (cs_X zc 0 3), .ref (cs_X zc 0 4), .ref (cs_X zc 0 5), .int (cs_i zc 0)])), (cs_X zc 0 2, .inl (cA 0, 48, .inl (cs_I zc 0))), (cs_X zc 0 3, .inl (cA 0, 48, .inl (cs_I zc 1))), (cs_X zc 0 4, .inl (cA 0, 48, .inl (cs_I zc 0))), (cs_X zc 0 5, .inl (cA 0, 48, .inl (cs_I zc 1)))] H := hP
      have hD : va_D _ [cTP zc, (cs_X zc 0 1, .inr (3, [.ref (cs_X zc 0 2), .ref (cs_X zc 0 3), .ref (cs_X zc 0 4), .ref (cs_X zc 0 5), .int (cs_i zc 0)])), (cs_X zc 0 2, .inl (cA 0, 48, .inl (cs_I zc 0))), (cs_X zc 0 3, .inl (cA 0, 48, .inl (cs_I zc 1))), (cs_X zc 0 4, .inl (cA 0, 48, .inl (cs_I zc 0))), (cs_X zc 0 5, .inl (cA 0, 48, .inl (cs_I zc 1)))] := hD
      refine lv_aload_n hx hb dX10_rise_35 rfl (lv_at hl 0 rfl) ?_
      refine va_get (D := (dC, dI)) (ci := 10) (v := .ref (cs_X zc 0 1)) (C := RX10) (T := TX10) (N := 13) hx hb hts hiX10 hown hK hP 0 rfl rfl 0 (by decide) (hts (.fieldLink RX10 12 "TributePitches" "lode" "LTributePitches$Lode;") (List.mem_of_getElem? (i := 1) rfl)) (fun _ h9 => h9) rfl dX10_rise_36 ?_
      refine lv_iload_n hx hb dX10_rise_39 rfl (lv_at hl 1 rfl) ?_
      have hPc := hP.sub (ws' := [(cs_X zc 0 1, .inr (3, [.ref (cs_X zc 0 2), .ref (cs_X zc 0 3), .ref (cs_X zc 0 4), .ref (cs_X zc 0 5), .int (cs_i zc 0)])), (cs_X zc 0 2, .inl (cA 0, 48, .inl (cs_I zc 0))), (cs_X zc 0 3, .inl (cA 0, 48, .inl (cs_I zc 1))), (cs_X zc 0 4, .inl (cA 0, 48, .inl (cs_I zc 0))), (cs_X zc 0 5, .inl (cA 0, 48, .inl (cs_I zc 1)))]) [1, 2, 3, 4, 5] rfl
      have hDc := hD.sub (ws' := [(cs_X zc 0 1, .inr (3, [.ref (cs_X zc 0 2), .ref (cs_X zc 0 3), .ref (cs_X zc 0 4), .ref (cs_X zc 0 5), .int (cs_i zc 0)])), (cs_X zc 0 2, .inl (cA 0, 48, .inl (cs_I zc 0))), (cs_X zc 0 3, .inl (cA 0, 48, .inl (cs_I zc 1))), (cs_X zc 0 4, .inl (cA 0, 48, .inl (cs_I zc 0))), (cs_X zc 0 5, .inl (cA 0, 48, .inl (cs_I zc 1)))]) [1, 2, 3, 4, 5] (by decide) rfl
      have hKc := hK.sub (tys' := [(cA 0, .int)]) [0] rfl
      have hFc := va_free (wc := [(cs_X zc 0 1, .inr (3, [.ref (cs_X zc 0 2), .ref (cs_X zc 0 3), .ref (cs_X zc 0 4), .ref (cs_X zc 0 5), .int (cs_i zc 0)])), (cs_X zc 0 2, .inl (cA 0, 48, .inl (cs_I zc 0))), (cs_X zc 0 3, .inl (cA 0, 48, .inl (cs_I zc 1))), (cs_X zc 0 4, .inl (cA 0, 48, .inl (cs_I zc 0))), (cs_X zc 0 5, .inl (cA 0, 48, .inl (cs_I zc 1)))]) hD hS hA [1, 2, 3, 4, 5] rfl
      refine va_calli (va_runV (As := [.int dd]) (rest := []) ⟨hx, hb, hml, hown, hts⟩ (s_endTrial l dC dI (cA 0) _ (cs_X zc 0 1) (cs_X zc 0 2) (cs_X zc 0 3) (cs_X zc 0 4) (cs_X zc 0 5) (cs_i zc 0) dd (cs_I zc 0) (cs_I zc 1) (cs_I zc 0) (cs_I zc 1) ) (cwV 1 hts gX10_rise_X3_endTrial rfl rfl rfl (by decide +kernel) ⟨Nat.le_of_ble_eq_true rfl, Nat.le_of_ble_eq_true rfl⟩) (pw_preV (va_recv hKc hPc (ci := 3) (q0 := 0) rfl rfl) hPc hKc hDc hN) rfl rfl hl.1 rfl (lv_room (Nat.le_of_ble_eq_true rfl)) dX10_rise_40 ⟨Nat.le_of_ble_eq_true rfl, Nat.le_of_ble_eq_true rfl⟩) hS (fun q _ h => hFc q h) hFc (fun r5 u t H1 locs ht hvm hw hB hz1 hk1 hS => ?_)
      obtain ⟨fl1_6, fh1_7, la1_8, tl1_9, th1_10⟩ := u
      have hr5 : (tl1_9 = dnL dd (swL dd (cs_I zc 0) 48) 48 ∧ th1_10 = dnH dd (swH dd (cs_I zc 1) 48) 48) ∧ ((r5 = -3 ∧ (∃ j, j < 48 ∧ th1_10 j < tl1_9 j) ∧ fl1_6 = (cs_I zc 0) ∧ fh1_7 = (cs_I zc 1) ∧ la1_8 = (cs_i zc 0)) ∨ (r5 = nI (fa_cnt (chg (cs_I zc 0) (cs_I zc 1) tl1_9 th1_10) 48) ∧ (∀ j, j < 48 → ¬ th1_10 j < tl1_9 j) ∧ fl1_6 = tl1_9 ∧ fh1_7 = th1_10 ∧ la1_8 = dd)) := hw
      obtain ⟨hP1, hK1, hD1⟩ := hB
      rw [ht] at hP1
      obtain ⟨hP, hD⟩ := va_join (wr := [cTP zc]) (w1 := [(cs_X zc 0 1, .inr (3, [.ref (cs_X zc 0 2), .ref (cs_X zc 0 3), .ref (cs_X zc 0 4), .ref (cs_X zc 0 5), .int la1_8])), (cs_X zc 0 2, .inl (cA 0, 48, .inl fl1_6)), (cs_X zc 0 3, .inl (cA 0, 48, .inl fh1_7)), (cs_X zc 0 4, .inl (cA 0, 48, .inl tl1_9)), (cs_X zc 0 5, .inl (cA 0, 48, .inl th1_10))]) hP hD [1, 2, 3, 4, 5] [0] rfl rfl (by decide) (by decide) hk1 hFc hP1 hD1
      generalize H1 = H at hP hS ⊢
      have hP : va_P (dC, dI) vwCl [cTP zc, (cs_X zc 0 1, .inr (3, [.ref (cs_X zc 0 2), .ref (cs_X zc 0 3), .ref (cs_X zc 0 4), .ref (cs_X zc 0 5), .int la1_8])), (cs_X zc 0 2, .inl (cA 0, 48, .inl fl1_6)), (cs_X zc 0 3, .inl (cA 0, 48, .inl fh1_7)), (cs_X zc 0 4, .inl (cA 0, 48, .inl tl1_9)), (cs_X zc 0 5, .inl (cA 0, 48, .inl th1_10))] H := hP
      have hD : va_D _ [cTP zc, (cs_X zc 0 1, .inr (3, [.ref (cs_X zc 0 2), .ref (cs_X zc 0 3), .ref (cs_X zc 0 4), .ref (cs_X zc 0 5), .int la1_8])), (cs_X zc 0 2, .inl (cA 0, 48, .inl fl1_6)), (cs_X zc 0 3, .inl (cA 0, 48, .inl fh1_7)), (cs_X zc 0 4, .inl (cA 0, 48, .inl tl1_9)), (cs_X zc 0 5, .inl (cA 0, 48, .inl th1_10))] := hD
      subst hQ
      have hP9 : va_P (dC, dI) vwCl [cTP zc, (cs_X zc 0 1, .inr (3, [.ref (cs_X zc 0 2), .ref (cs_X zc 0 3), .ref (cs_X zc 0 4), .ref (cs_X zc 0 5), .int la1_8])), (cs_X zc 0 2, .inl (cA 0, 48, .inl fl1_6)), (cs_X zc 0 3, .inl (cA 0, 48, .inl fh1_7)), (cs_X zc 0 4, .inl (cA 0, 48, .inl tl1_9)), (cs_X zc 0 5, .inl (cA 0, 48, .inl th1_10))] H := hP.sub [0, 1, 2, 3, 4, 5] rfl
      have hD9 : va_D (va_A [cTP zc, cLo zc, cA2 cA zc, cA3 cA zc, cA4 cA zc, cA5 cA zc] s.heap.size) [cTP zc, (cs_X zc 0 1, .inr (3, [.ref (cs_X zc 0 2), .ref (cs_X zc 0 3), .ref (cs_X zc 0 4), .ref (cs_X zc 0 5), .int la1_8])), (cs_X zc 0 2, .inl (cA 0, 48, .inl fl1_6)), (cs_X zc 0 3, .inl (cA 0, 48, .inl fh1_7)), (cs_X zc 0 4, .inl (cA 0, 48, .inl tl1_9)), (cs_X zc 0 5, .inl (cA 0, 48, .inl th1_10))] := hD.sub [0, 1, 2, 3, 4, 5] (by decide) rfl
      have hlf := lf_rise_0 cA zc dd fl1_6 fh1_7 la1_8 tl1_9 th1_10 r5 c2 c3 hr5 hI
      exact W.iret (v := r5) hx hb hr (fun t ht hW => have hJ := kjoin hPk hDk hks rfl (hS.F ht) (by rw [ht]; exact hP9) hD9 hlf.2.1 hlf.2.2; ⟨⟨r5, (va_up (cs_i zc) 0 la1_8, cs_n zc, va_up (va_up (va_up (va_up (cs_I zc) 0 fl1_6) 1 fh1_7) 2 tl1_9) 3 th1_10, cs_L zc, cs_N zc, cs_S zc, cs_X zc), rfl, ⟨⟨hlf.1, rfl⟩, (Or.inl ⟨c2, c3, fl1_6, fh1_7, la1_8, tl1_9, th1_10, r5, hr5, rfl, rfl⟩)⟩, hJ.1, va_K.moved hW.alike hKk, hJ.2.1⟩, hJ.2.2⟩) (fun q h => kAll_A hks _ (hS.2.2 q h)) dX10_rise_43
    · skip
      refine lv_bipush (v := (-3)) hx hb dX10_rise_25 (by decide) ?_
      subst hQ
      exact W.iret (v := (-3)) hx hb hr (fun t ht hW => ⟨⟨(-3), zc, rfl, ⟨⟨hI, rfl⟩, (Or.inr (Or.inl ⟨c2, c3, rfl, rfl⟩))⟩, (by rw [ht]; exact hPk), va_K.moved hW.alike hKk, kDA_self hDk⟩, (kw_same hPk ht).2⟩) (fun q h => absurd h List.not_mem_nil) dX10_rise_27
  · skip
    have c2 := (fa_bool_prop hr1).1.mp c2
    refine lv_bipush (v := (-2)) hx hb dX10_rise_11 (by decide) ?_
    subst hQ
    exact W.iret (v := (-2)) hx hb hr (fun t ht hW => ⟨⟨(-2), zc, rfl, ⟨⟨hI, rfl⟩, (Or.inr (Or.inr ⟨c2, rfl, rfl⟩))⟩, (by rw [ht]; exact hPk), va_K.moved hW.alike hKk, kDA_self hDk⟩, (kw_same hPk ht).2⟩) (fun q h => absurd h List.not_mem_nil) dX10_rise_13
def ncell (sz i : Int32) : Int32 := if sz < 0 then 1 else if 0 ≤ i.toInt64 ∧ i.toInt64 ≤ sz.toInt64 - 1 then 0 else 3
theorem ncell_le {sz i : Int32} (hs : sz.toInt ≤ 48) (h : ncell sz i ≤ 0) : ∃ a : Nat, a < 48 ∧ i = nI a := by
  unfold ncell at h
  by_cases h1 : sz < 0
  · rw [if_pos h1] at h; exact absurd h (by decide)
  rw [if_neg h1] at h
  by_cases h2 : 0 ≤ i.toInt64 ∧ i.toInt64 ≤ sz.toInt64 - 1
  · have h3 : ¬ i < 0 := fun q => by
      have := h2.1
      rw [show (0 : Int64) = (0 : Int32).toInt64 by decide, fa_wide_le] at this
      exact absurd q (Int32.not_lt.mpr this)
    obtain ⟨a, ha, rfl⟩ := nI_of h3
    have h5 := Int64.le_iff_toInt_le.mp h2.2
    have h6 := Int32.not_lt.mp h1
    have h7 := (fa_le _ _).mp h6
    have z : (0 : Int32).toInt = 0 := by decide
    have o : (1 : Int64).toInt = 1 := by decide
    rw [Int64.toInt_sub, Int32.toInt_toInt64, Int32.toInt_toInt64, nI_toInt ha, o, Int.bmod_eq_of_le (by omega) (by omega)] at h5
    exact ⟨a, by omega, rfl⟩
  · rw [if_neg h2] at h; exact absurd h (by decide)
def onB (f0 f1 f2 f3 : Nat → Int32) (j i : Nat) : Bool := decide ((f0 j ≤ nI (i % 8) ∧ nI (i % 8) ≤ f1 j) ∧ (f2 j ≤ nI (i / 8) ∧ nI (i / 8) ≤ f3 j))
def fsum (P : Nat → Bool) (g : Nat → Int32) : Nat → Int64
  | 0 => 0
  | i + 1 => fsum P g i + (if P i = true then (g i).toInt64 else 0)
def smax (P : Nat → Bool) (g : Nat → Int32) : Nat → Int32
  | 0 => 0
  | i + 1 => if P i = true ∧ smax P g i < g i then g i else smax P g i
def zfill (b : Nat) (f : Nat → Int32) : Nat → Nat → Int32
  | 0 => f
  | i + 1 => upd (zfill b f i) (b + i) 0
theorem shix (a b : Nat) : (48 : Int32) * nI a + nI b = nI (48 * a + b) := by
  rw [show (48 : Int32) * nI a = nI (48 * a) from pk_mul 48 a]
  exact nI_add _ _
theorem k01 {k : Int32} (h : 0 ≤ k ∧ k ≤ 1) : k = 0 ∨ k = 1 := by
  obtain ⟨a, ha, rfl⟩ := nI_of2 (x := k) (M := 1) (n := 1) (by decide) (Int32.not_lt.mpr h.1) h.2
  rcases (show a = 0 ∨ a = 1 by omega) with rfl | rfl
  · exact Or.inl rfl
  · exact Or.inr rfl
set_option maxHeartbeats 4000000 in
set_option maxRecDepth 100000 in
theorem r_noCell (l : Launch) (dC : Nat → ClassId) (dI : Nat → Nat → Nat) (cI : ClassId) (sz : Nat) (qm : Nat) (w0 : Value) (w1 : Value) (w2 : Value) (w3 : Value) (w4 : Value) (w5 : Value) (w6 : Value) (w8 : Value) (w9 : Value) (w10 : Value) (w11 : Value) (w12 : Value) (w13 : Value) (w14 : Value) (w15 : Value) (w16 : Value) (w17 : Value) (w18 : Value) (w19 : Value) (w20 : Value) (w21 : Value) (w22 : Value) (w23 : Value) (w24 : Value) (w25 : Value) (w26 : Value) (w27 : Value) (w28 : Value) (w29 : Value) (w30 : Value) (w31 : Value) (w32 : Value) (w33 : Value) (w34 : Value) (w35 : Value) (w36 : Value) (w37 : Value) (w38 : Value) (ss : Nat) (j : Nat) (i : Int32) (f : Nat → Int32) (hj : j < 4) : Met l yX11_noCell wsX11_noCell ({ frames := 1, cells := 0, slots := 0, locals := 30 }) (pw (dC, dI) [(cI, .int)] [(qm, .inr (11, [w0, w1, w2, w3, w4, w5, w6, .ref ss, w8, w9, w10, w11, w12, w13, w14, w15, w16, w17, w18, w19, w20, w21, w22, w23, w24, w25, w26, w27, w28, w29, w30, w31, w32, w33, w34, w35, w36, w37, w38])), (ss, .inl (cI, 4, .inl f))] sz [.ref qm, .int (nI j), .int i]) (vp_Si (fun r => r = ncell (f j) i)) 0 0 (fun _ => False) := by
  refine pw_met (cc := cX11_noCell) (maxL := 3) (ret := (some .int)) (by decide) rfl (Nat.le_of_ble_eq_true rfl) ?_
  intro p e s m below meth c0 hx hb hr hml hown hlocks hnm hts hP hK hD hN hsz hA hS ls hl
  have hl : lv_has ls 3 [(0, .ref qm), (1, .int (nI j)), (2, .int i)] := hl
  have hiX11 : ∀ w ∈ wsX110, w ∈ wsX11_noCell := fun _ h => List.mem_cons_of_mem _ (List.mem_append_right _ (h))
  generalize hQ : MQ _ _ _ _ _ _ _ = Q
  refine lv_aload_n hx hb dX11_noCell_0 rfl (lv_at hl 0 rfl) ?_
  refine va_get (D := (dC, dI)) (ci := 11) (v := .ref ss) (C := RX11) (T := TX11) (N := 39) hx hb hts hiX11 hown hK hP 0 rfl rfl 7 (by decide) (hts (.fieldLink RX11 22 "TributePitchesModel" "sheetSize" "[I") (List.mem_of_getElem? (i := 1) rfl)) (fun _ h9 => h9) rfl dX11_noCell_1 ?_
  refine lv_iload_n hx hb dX11_noCell_4 rfl (lv_at hl 1 rfl) ?_
  refine va_iald hx hb hK hP 1 0 rfl rfl (vp_in_nI (by omega) (by omega)) dX11_noCell_5 ?_
  refine lv_topi (fun v1 ev1 => ?_)
  have ev1 : v1 = f j := by rw [ev1]; rw [nI_clamp (by omega)]
  subst ev1
  refine lv_if_ge (tgt := 13) hx hb dX11_noCell_6 (by decide) (fun c2 => ?_) (fun c2 => ?_)
  · skip
    refine lv_iload_n hx hb dX11_noCell_13 rfl (lv_at hl 2 rfl) ?_
    refine lv_i2l (v := i.toInt64) hx hb dX11_noCell_14 rfl ?_
    refine lv_lconst (v := 0) hx hb dX11_noCell_15 (by decide) ?_
    refine lv_aload_n hx hb dX11_noCell_16 rfl (lv_at hl 0 rfl) ?_
    refine va_get (D := (dC, dI)) (ci := 11) (v := .ref ss) (C := RX11) (T := TX11) (N := 39) hx hb hts hiX11 hown hK hP 0 rfl rfl 7 (by decide) (hts (.fieldLink RX11 22 "TributePitchesModel" "sheetSize" "[I") (List.mem_of_getElem? (i := 1) rfl)) (fun _ h9 => h9) rfl dX11_noCell_17 ?_
    refine lv_iload_n hx hb dX11_noCell_20 rfl (lv_at hl 1 rfl) ?_
    refine va_iald hx hb hK hP 1 0 rfl rfl (vp_in_nI (by omega) (by omega)) dX11_noCell_21 ?_
    refine lv_topi (fun v3 ev3 => ?_)
    have ev3 : v3 = f j := by rw [ev3]; rw [nI_clamp (by omega)]
    subst ev3
    refine lv_i2l (v := (f j).toInt64) hx hb dX11_noCell_22 rfl ?_
    refine lv_lconst (v := 1) hx hb dX11_noCell_23 (by decide) ?_
    refine lv_lsub hx hb dX11_noCell_24 ?_
    refine vp_callSi (va_Run.run (va_runS (As := [.long i.toInt64, .long 0, .long (((f j).toInt64) - 1)]) (rest := []) ⟨hx, hb, hml, hown, hts⟩ (c_X11_in l i.toInt64 0 (((f j).toInt64) - 1) ) (va_cwS 3 hts gX11_noCell_X11_in rfl rfl rfl (by decide +kernel) ⟨Nat.le_of_ble_eq_true rfl, Nat.le_of_ble_eq_true rfl⟩) (p0_preS hN) rfl rfl hl.1 rfl (lv_room (Nat.le_of_ble_eq_true rfl)) dX11_noCell_25 ⟨Nat.le_of_ble_eq_true rfl, Nat.le_of_ble_eq_true rfl⟩)) (fun r4 hr4 => ?_)
    have hr4 : r4 = if 0 ≤ i.toInt64 ∧ i.toInt64 ≤ (((f j).toInt64) - 1) then 1 else 0 := hr4
    refine lv_if_eq (tgt := 35) hx hb dX11_noCell_28 (by decide) (fun c5 => ?_) (fun c5 => ?_)
    · skip
      have c5 := (fa_bool_prop hr4).1.mp c5
      refine lv_iconst (v := 3) hx hb dX11_noCell_35 (by decide) ?_
      subst hQ
      exact W.iret (v := 3) hx hb hr (fun t ht hW => ⟨3, rfl, (by rw [ncell, if_neg (Int32.not_lt.mpr c2), if_neg c5]), ht⟩) (fun q h => absurd h List.not_mem_nil) dX11_noCell_36
    · skip
      have c5 := (fa_bool_prop hr4).2.mp c5
      refine lv_iconst (v := 0) hx hb dX11_noCell_31 (by decide) ?_
      refine lv_goto (tgt := 36) hx hb dX11_noCell_32 (by decide) ?_
      subst hQ
      exact W.iret (v := 0) hx hb hr (fun t ht hW => ⟨0, rfl, (by rw [ncell, if_neg (Int32.not_lt.mpr c2), if_pos c5]), ht⟩) (fun q h => absurd h List.not_mem_nil) dX11_noCell_36
  · skip
    refine lv_iconst (v := 1) hx hb dX11_noCell_9 (by decide) ?_
    refine lv_goto (tgt := 36) hx hb dX11_noCell_10 (by decide) ?_
    subst hQ
    exact W.iret (v := 1) hx hb hr (fun t ht hW => ⟨1, rfl, (by rw [ncell, if_pos (Int32.not_le.mp c2)]), ht⟩) (fun q h => absurd h List.not_mem_nil) dX11_noCell_36
set_option maxHeartbeats 4000000 in
set_option maxRecDepth 100000 in
theorem r_isBeyond (l : Launch) (i : Int32) (n : Int32) (al : Int32)  : Met l yX11_isBeyond wsX11_isBeyond ({ frames := 0, cells := 0, slots := 0, locals := 0 }) (p0 [.int i, .int n, .int al]) (vp_Si (fun r => r = if ¬ (0 ≤ i ∧ 0 ≤ n ∧ i.toInt64 + n.toInt64 ≤ al.toInt64) then 1 else 0)) 0 0 (fun _ => False) := by
  refine p0_met (cc := cX11_isBeyond) (maxL := 3) (ret := (some .boolean)) (by decide) rfl (Nat.le_of_ble_eq_true rfl) ?_
  intro p e s m below meth c0 hx hb hr hml hown hlocks hnm hts hN ls hl
  have hl : lv_has ls 3 [(0, .int i), (1, .int n), (2, .int al)] := hl
  generalize hQ : MQ _ _ _ _ _ _ _ = Q
  refine lv_iload_n hx hb dX11_isBeyond_0 rfl (lv_at hl 0 rfl) ?_
  refine lv_if_lt (tgt := 19) hx hb dX11_isBeyond_1 (by decide) (fun c1 => ?_) (fun c1 => ?_)
  · skip
    refine lv_iconst (v := 1) hx hb dX11_isBeyond_19 (by decide) ?_
    refine lv_goto (tgt := 24) hx hb dX11_isBeyond_20 (by decide) ?_
    subst hQ
    exact W.zret (v := 1) hx hb hr rfl (fun t ht hW => ⟨1, rfl, (by rw [if_pos (fun q => absurd c1 (Int32.not_lt.mpr q.1))]), ht⟩) (fun q h => absurd h List.not_mem_nil) dX11_isBeyond_24
  · skip
    refine lv_iload_n hx hb dX11_isBeyond_4 rfl (lv_at hl 1 rfl) ?_
    refine lv_if_lt (tgt := 19) hx hb dX11_isBeyond_5 (by decide) (fun c2 => ?_) (fun c2 => ?_)
    · skip
      refine lv_iconst (v := 1) hx hb dX11_isBeyond_19 (by decide) ?_
      refine lv_goto (tgt := 24) hx hb dX11_isBeyond_20 (by decide) ?_
      subst hQ
      exact W.zret (v := 1) hx hb hr rfl (fun t ht hW => ⟨1, rfl, (by rw [if_pos (fun q => absurd c2 (Int32.not_lt.mpr q.2.1))]), ht⟩) (fun q h => absurd h List.not_mem_nil) dX11_isBeyond_24
    · skip
      refine lv_iload_n hx hb dX11_isBeyond_8 rfl (lv_at hl 0 rfl) ?_
      refine lv_i2l (v := i.toInt64) hx hb dX11_isBeyond_9 rfl ?_
      refine lv_iload_n hx hb dX11_isBeyond_10 rfl (lv_at hl 1 rfl) ?_
      refine lv_i2l (v := n.toInt64) hx hb dX11_isBeyond_11 rfl ?_
      refine lv_ladd hx hb dX11_isBeyond_12 ?_
      refine lv_iload_n hx hb dX11_isBeyond_13 rfl (lv_at hl 2 rfl) ?_
      refine lv_i2l (v := al.toInt64) hx hb dX11_isBeyond_14 rfl ?_
      refine W.lcmp hx hb dX11_isBeyond_15 ?_
      refine lv_if_le (tgt := 23) hx hb dX11_isBeyond_16 (by decide) (fun c3 => ?_) (fun c3 => ?_)
      · skip
        have c3 := (lg_cmp_le _ _).mp c3
        refine lv_iconst (v := 0) hx hb dX11_isBeyond_23 (by decide) ?_
        subst hQ
        exact W.zret (v := 0) hx hb hr rfl (fun t ht hW => ⟨0, rfl, (by rw [if_neg (not_not_intro ⟨Int32.not_lt.mp c1, Int32.not_lt.mp c2, c3⟩)]), ht⟩) (fun q h => absurd h List.not_mem_nil) dX11_isBeyond_24
      · skip
        have c3 := fun h => c3 ((lg_cmp_le _ _).mpr h)
        refine lv_iconst (v := 1) hx hb dX11_isBeyond_19 (by decide) ?_
        refine lv_goto (tgt := 24) hx hb dX11_isBeyond_20 (by decide) ?_
        subst hQ
        exact W.zret (v := 1) hx hb hr rfl (fun t ht hW => ⟨1, rfl, (by rw [if_pos (fun q => c3 q.2.2)]), ht⟩) (fun q h => absurd h List.not_mem_nil) dX11_isBeyond_24
set_option maxHeartbeats 4000000 in
set_option maxRecDepth 100000 in
theorem r_isOn (l : Launch) (dC : Nat → ClassId) (dI : Nat → Nat → Nat) (cI : ClassId) (sz : Nat) (qm : Nat) (w0 : Value) (w1 : Value) (w2 : Value) (w3 : Value) (w4 : Value) (w5 : Value) (w6 : Value) (w7 : Value) (w8 : Value) (w9 : Value) (w10 : Value) (w11 : Value) (w16 : Value) (w17 : Value) (w18 : Value) (w19 : Value) (w20 : Value) (w21 : Value) (w22 : Value) (w23 : Value) (w24 : Value) (w25 : Value) (w26 : Value) (w27 : Value) (w28 : Value) (w29 : Value) (w30 : Value) (w31 : Value) (w32 : Value) (w33 : Value) (w34 : Value) (w35 : Value) (w36 : Value) (w37 : Value) (w38 : Value) (ra : Nat) (rb : Nat) (rc : Nat) (rd : Nat) (j : Nat) (i : Nat) (f0 : Nat → Int32) (f1 : Nat → Int32) (f2 : Nat → Int32) (f3 : Nat → Int32) (hj : j < 12) (hi : i < 48) : Met l yX11_isOn wsX11_isOn ({ frames := 1, cells := 0, slots := 0, locals := 30 }) (pw (dC, dI) [(cI, .int)] [(qm, .inr (11, [w0, w1, w2, w3, w4, w5, w6, w7, w8, w9, w10, w11, .ref ra, .ref rc, .ref rb, .ref rd, w16, w17, w18, w19, w20, w21, w22, w23, w24, w25, w26, w27, w28, w29, w30, w31, w32, w33, w34, w35, w36, w37, w38])), (ra, .inl (cI, 12, .inl f0)), (rb, .inl (cI, 12, .inl f1)), (rc, .inl (cI, 12, .inl f2)), (rd, .inl (cI, 12, .inl f3))] sz [.ref qm, .int (nI j), .int (nI i)]) (vp_Si (fun r => r = if onB f0 f1 f2 f3 j i = true then 1 else 0)) 0 0 (fun _ => False) := by
  refine pw_met (cc := cX11_isOn) (maxL := 3) (ret := (some .boolean)) (by decide) rfl (Nat.le_of_ble_eq_true rfl) ?_
  intro p e s m below meth c0 hx hb hr hml hown hlocks hnm hts hP hK hD hN hsz hA hS ls hl
  have hl : lv_has ls 3 [(0, .ref qm), (1, .int (nI j)), (2, .int (nI i))] := hl
  have hiX11 : ∀ w ∈ wsX110, w ∈ wsX11_isOn := fun _ h => List.mem_cons_of_mem _ (List.mem_append_right _ (h))
  generalize hQ : MQ _ _ _ _ _ _ _ = Q
  refine lv_iload_n hx hb dX11_isOn_0 rfl (lv_at hl 2 rfl) ?_
  refine lv_bipush (v := 8) hx hb dX11_isOn_1 (by decide) ?_
  refine lv_irem hx hb dX11_isOn_3 (by decide) ?_
  refine lv_topi (fun v3 ev3 => ?_)
  have ev3 : v3 = nI (i % 8) := by rw [ev3]; exact pk_rem (d := 8) (by omega) (by decide) (by decide)
  subst ev3
  refine lv_i2l (v := (nI (i % 8)).toInt64) hx hb dX11_isOn_4 rfl ?_
  refine lv_aload_n hx hb dX11_isOn_5 rfl (lv_at hl 0 rfl) ?_
  refine va_get (D := (dC, dI)) (ci := 11) (v := .ref ra) (C := RX11) (T := TX11) (N := 39) hx hb hts hiX11 hown hK hP 0 rfl rfl 12 (by decide) (hts (.fieldLink RX11 34 "TributePitchesModel" "fromX" "[I") (List.mem_of_getElem? (i := 1) rfl)) (fun _ h9 => h9) rfl dX11_isOn_6 ?_
  refine lv_iload_n hx hb dX11_isOn_9 rfl (lv_at hl 1 rfl) ?_
  refine va_iald hx hb hK hP 1 0 rfl rfl (vp_in_nI (by omega) (by omega)) dX11_isOn_10 ?_
  refine lv_topi (fun v1 ev1 => ?_)
  have ev1 : v1 = f0 j := by rw [ev1]; rw [nI_clamp (by omega)]
  subst ev1
  refine lv_i2l (v := (f0 j).toInt64) hx hb dX11_isOn_11 rfl ?_
  refine lv_aload_n hx hb dX11_isOn_12 rfl (lv_at hl 0 rfl) ?_
  refine va_get (D := (dC, dI)) (ci := 11) (v := .ref rb) (C := RX11) (T := TX11) (N := 39) hx hb hts hiX11 hown hK hP 0 rfl rfl 14 (by decide) (hts (.fieldLink RX11 40 "TributePitchesModel" "toX" "[I") (List.mem_of_getElem? (i := 2) rfl)) (fun _ h9 => h9) rfl dX11_isOn_13 ?_
  refine lv_iload_n hx hb dX11_isOn_16 rfl (lv_at hl 1 rfl) ?_
  refine va_iald hx hb hK hP 2 0 rfl rfl (vp_in_nI (by omega) (by omega)) dX11_isOn_17 ?_
  refine lv_topi (fun v2 ev2 => ?_)
  have ev2 : v2 = f1 j := by rw [ev2]; rw [nI_clamp (by omega)]
  subst ev2
  refine lv_i2l (v := (f1 j).toInt64) hx hb dX11_isOn_18 rfl ?_
  refine vp_callSi (va_Run.run (va_runS (As := [.long ((nI (i % 8)).toInt64), .long ((f0 j).toInt64), .long ((f1 j).toInt64)]) (rest := []) ⟨hx, hb, hml, hown, hts⟩ (c_X11_in l ((nI (i % 8)).toInt64) ((f0 j).toInt64) ((f1 j).toInt64) ) (va_cwS 3 hts gX11_isOn_X11_in rfl rfl rfl (by decide +kernel) ⟨Nat.le_of_ble_eq_true rfl, Nat.le_of_ble_eq_true rfl⟩) (p0_preS hN) rfl rfl hl.1 rfl (lv_room (Nat.le_of_ble_eq_true rfl)) dX11_isOn_19 ⟨Nat.le_of_ble_eq_true rfl, Nat.le_of_ble_eq_true rfl⟩)) (fun r3 hr3 => ?_)
  have hr3 : r3 = if ((f0 j).toInt64) ≤ ((nI (i % 8)).toInt64) ∧ ((nI (i % 8)).toInt64) ≤ ((f1 j).toInt64) then 1 else 0 := hr3
  have hr3 := hr3.trans (in_w _ (f0 j) (f1 j) rfl rfl)
  refine lv_if_eq (tgt := 54) hx hb dX11_isOn_22 (by decide) (fun c4 => ?_) (fun c4 => ?_)
  · skip
    have c4 := (fa_bool_prop hr3).1.mp c4
    refine lv_iconst (v := 0) hx hb dX11_isOn_54 (by decide) ?_
    subst hQ
    exact W.zret (v := 0) hx hb hr rfl (fun t ht hW => ⟨0, rfl, (by rw [if_neg (by simp only [onB, decide_eq_true_eq]; exact fun q => c4 q.1)]), ht⟩) (fun q h => absurd h List.not_mem_nil) dX11_isOn_55
  · skip
    have c4 := (fa_bool_prop hr3).2.mp c4
    refine lv_iload_n hx hb dX11_isOn_25 rfl (lv_at hl 2 rfl) ?_
    refine lv_bipush (v := 8) hx hb dX11_isOn_26 (by decide) ?_
    refine lv_idiv hx hb dX11_isOn_28 (by decide) ?_
    refine lv_topi (fun v28 ev28 => ?_)
    have ev28 : v28 = nI (i / 8) := by rw [ev28]; exact pk_div (d := 8) (by omega) (by decide) (by decide)
    subst ev28
    refine lv_i2l (v := (nI (i / 8)).toInt64) hx hb dX11_isOn_29 rfl ?_
    refine lv_aload_n hx hb dX11_isOn_30 rfl (lv_at hl 0 rfl) ?_
    refine va_get (D := (dC, dI)) (ci := 11) (v := .ref rc) (C := RX11) (T := TX11) (N := 39) hx hb hts hiX11 hown hK hP 0 rfl rfl 13 (by decide) (hts (.fieldLink RX11 37 "TributePitchesModel" "fromY" "[I") (List.mem_of_getElem? (i := 3) rfl)) (fun _ h9 => h9) rfl dX11_isOn_31 ?_
    refine lv_iload_n hx hb dX11_isOn_34 rfl (lv_at hl 1 rfl) ?_
    refine va_iald hx hb hK hP 3 0 rfl rfl (vp_in_nI (by omega) (by omega)) dX11_isOn_35 ?_
    refine lv_topi (fun v5 ev5 => ?_)
    have ev5 : v5 = f2 j := by rw [ev5]; rw [nI_clamp (by omega)]
    subst ev5
    refine lv_i2l (v := (f2 j).toInt64) hx hb dX11_isOn_36 rfl ?_
    refine lv_aload_n hx hb dX11_isOn_37 rfl (lv_at hl 0 rfl) ?_
    refine va_get (D := (dC, dI)) (ci := 11) (v := .ref rd) (C := RX11) (T := TX11) (N := 39) hx hb hts hiX11 hown hK hP 0 rfl rfl 15 (by decide) (hts (.fieldLink RX11 43 "TributePitchesModel" "toY" "[I") (List.mem_of_getElem? (i := 4) rfl)) (fun _ h9 => h9) rfl dX11_isOn_38 ?_
    refine lv_iload_n hx hb dX11_isOn_41 rfl (lv_at hl 1 rfl) ?_
    refine va_iald hx hb hK hP 4 0 rfl rfl (vp_in_nI (by omega) (by omega)) dX11_isOn_42 ?_
    refine lv_topi (fun v6 ev6 => ?_)
    have ev6 : v6 = f3 j := by rw [ev6]; rw [nI_clamp (by omega)]
    subst ev6
    refine lv_i2l (v := (f3 j).toInt64) hx hb dX11_isOn_43 rfl ?_
    refine vp_callSi (va_Run.run (va_runS (As := [.long ((nI (i / 8)).toInt64), .long ((f2 j).toInt64), .long ((f3 j).toInt64)]) (rest := []) ⟨hx, hb, hml, hown, hts⟩ (c_X11_in l ((nI (i / 8)).toInt64) ((f2 j).toInt64) ((f3 j).toInt64) ) (va_cwS 3 hts gX11_isOn_X11_in rfl rfl rfl (by decide +kernel) ⟨Nat.le_of_ble_eq_true rfl, Nat.le_of_ble_eq_true rfl⟩) (p0_preS hN) rfl rfl hl.1 rfl (lv_room (Nat.le_of_ble_eq_true rfl)) dX11_isOn_44 ⟨Nat.le_of_ble_eq_true rfl, Nat.le_of_ble_eq_true rfl⟩)) (fun r7 hr7 => ?_)
    have hr7 : r7 = if ((f2 j).toInt64) ≤ ((nI (i / 8)).toInt64) ∧ ((nI (i / 8)).toInt64) ≤ ((f3 j).toInt64) then 1 else 0 := hr7
    have hr7 := hr7.trans (in_w _ (f2 j) (f3 j) rfl rfl)
    refine lv_if_eq (tgt := 54) hx hb dX11_isOn_47 (by decide) (fun c8 => ?_) (fun c8 => ?_)
    · skip
      have c8 := (fa_bool_prop hr7).1.mp c8
      refine lv_iconst (v := 0) hx hb dX11_isOn_54 (by decide) ?_
      subst hQ
      exact W.zret (v := 0) hx hb hr rfl (fun t ht hW => ⟨0, rfl, (by rw [if_neg (by simp only [onB, decide_eq_true_eq]; exact fun q => c8 q.2)]), ht⟩) (fun q h => absurd h List.not_mem_nil) dX11_isOn_55
    · skip
      have c8 := (fa_bool_prop hr7).2.mp c8
      refine lv_iconst (v := 1) hx hb dX11_isOn_50 (by decide) ?_
      refine lv_goto (tgt := 55) hx hb dX11_isOn_51 (by decide) ?_
      subst hQ
      exact W.zret (v := 1) hx hb hr rfl (fun t ht hW => ⟨1, rfl, (by rw [if_pos (by simp only [onB, decide_eq_true_eq]; exact ⟨c4, c8⟩)]), ht⟩) (fun q h => absurd h List.not_mem_nil) dX11_isOn_55
set_option maxHeartbeats 4000000 in
set_option maxRecDepth 100000 in
theorem r_foretoldOf_0 (l : Launch) (dC : Nat → ClassId) (dI : Nat → Nat → Nat) (cI : ClassId) (sz : Nat) (qm : Nat) (w0 : Value) (w1 : Value) (w3 : Value) (w4 : Value) (w5 : Value) (w6 : Value) (w7 : Value) (w8 : Value) (w9 : Value) (w10 : Value) (w11 : Value) (w17 : Value) (w18 : Value) (w19 : Value) (w20 : Value) (w21 : Value) (w22 : Value) (w23 : Value) (w24 : Value) (w25 : Value) (w26 : Value) (w27 : Value) (w28 : Value) (w29 : Value) (w30 : Value) (w31 : Value) (w32 : Value) (w33 : Value) (w34 : Value) (w35 : Value) (w36 : Value) (w37 : Value) (w38 : Value) (ra : Nat) (rb : Nat) (rc : Nat) (rd : Nat) (re : Nat) (rg : Nat) (j : Nat) (f0 : Nat → Int32) (f1 : Nat → Int32) (f2 : Nat → Int32) (f3 : Nat → Int32) (f4 : Nat → Int32) (g : Nat → Int32) (hj : j < 12) : Met l yX11_foretoldOf wsX11_foretoldOf ({ frames := 2, cells := 0, slots := 0, locals := 60 }) (pw (dC, dI) [(cI, .int)] [(qm, .inr (11, [w0, w1, .ref rg, w3, w4, w5, w6, w7, w8, w9, w10, w11, .ref ra, .ref rc, .ref rb, .ref rd, .ref re, w17, w18, w19, w20, w21, w22, w23, w24, w25, w26, w27, w28, w29, w30, w31, w32, w33, w34, w35, w36, w37, w38])), (ra, .inl (cI, 12, .inl f0)), (rb, .inl (cI, 12, .inl f1)), (rc, .inl (cI, 12, .inl f2)), (rd, .inl (cI, 12, .inl f3)), (re, .inl (cI, 12, .inl f4)), (rg, .inl (cI, 48, .inl g))] sz [.ref qm, .int (nI j), .int 0]) (vp_Sl (fun r => r = fsum (onB f0 f1 f2 f3 j) g 48 * (f4 j).toInt64)) 0 0 (fun _ => False) := by
  refine pw_met (cc := cX11_foretoldOf) (maxL := 6) (ret := (some .long)) (by decide) rfl (Nat.le_of_ble_eq_true rfl) ?_
  intro p e s m below meth c0 hx hb hr hml hown hlocks hnm hts hP hK hD hN hsz hA hS ls hl
  have hl : lv_has ls 6 [(0, .ref qm), (1, .int (nI j)), (2, .int 0)] := hl
  have hiX11 : ∀ w ∈ wsX110, w ∈ wsX11_foretoldOf := fun _ h => List.mem_cons_of_mem _ (List.mem_append_right _ (h))
  generalize hQ : MQ _ _ _ _ _ _ _ = Q
  refine lv_lconst (v := 0) hx hb dX11_foretoldOf_0 (by decide) ?_
  refine lv_lstore_n (lv' := [(3, .long 0), (0, .ref qm), (1, .int (nI j)), (2, .int 0)]) hx hb dX11_foretoldOf_1 rfl hl (by decide) rfl (fun ls hl => ?_)
  refine lv_iconst (v := 0) hx hb dX11_foretoldOf_2 (by decide) ?_
  refine lv_istore (lv' := [(5, .int 0), (3, .long 0), (0, .ref qm), (1, .int (nI j)), (2, .int 0)]) hx hb dX11_foretoldOf_3 hl (by decide) rfl (fun ls hl => ?_)
  have loop5 : ∀ (ni5 i5 : Nat) (ls : Array Slot), i5 ≤ 48 → 48 + 1 ≤ i5 + ni5 → lv_has ls 6 [(5, .int (nI i5)), (3, .long (fsum (onB f0 f1 f2 f3 j) g i5)), (0, .ref qm), (1, .int (nI j)), (2, .int 0)] → W p l e ({ frames := 2, cells := 0, slots := 0, locals := 60 } : Room) s m ([.ref qm, .int (nI j), .int 0] : List Value).toArray below meth c0 s.heap [] 0 0 Q (F0 m 5 ls []) := by
    intro ni5
    induction ni5 with
    | zero =>
      intro i5  ls h1 h2
      exact absurd h2 (by omega)
    | succ ni5 ihi5 =>
      intro i5  ls hlei5 hni5  hl
      refine lv_iload hx hb dX11_foretoldOf_5 (lv_at hl 0 rfl) ?_
      refine lv_bipush (v := 48) hx hb dX11_foretoldOf_7 (by decide) ?_
      refine lv_icmp_ge (tgt := 58) hx hb dX11_foretoldOf_9 (by decide) (fun c1 => ?_) (fun c1 => ?_)
      · skip
        have hei5 : i5 = 48 := (Nat.lt_or_ge i5 48).elim (fun q => absurd c1 (show ¬ nI 48 ≤ nI i5 from nI_ge q (by omega))) (fun q => by omega)
        refine lv_lload_n hx hb dX11_foretoldOf_58 rfl (lv_at hl 1 rfl) ?_
        refine lv_aload_n hx hb dX11_foretoldOf_59 rfl (lv_at hl 2 rfl) ?_
        refine va_get (D := (dC, dI)) (ci := 11) (v := .ref re) (C := RX11) (T := TX11) (N := 39) hx hb hts hiX11 hown hK hP 0 rfl rfl 16 (by decide) (hts (.fieldLink RX11 46 "TributePitchesModel" "tonsOf" "[I") (List.mem_of_getElem? (i := 3) rfl)) (fun _ h9 => h9) rfl dX11_foretoldOf_60 ?_
        refine lv_iload_n hx hb dX11_foretoldOf_63 rfl (lv_at hl 3 rfl) ?_
        refine va_iald hx hb hK hP 5 0 rfl rfl (vp_in_nI (by omega) (by omega)) dX11_foretoldOf_64 ?_
        refine lv_topi (fun v2 ev2 => ?_)
        have ev2 : v2 = f4 j := by rw [ev2]; rw [nI_clamp (by omega)]
        subst ev2
        refine lv_i2l (v := (f4 j).toInt64) hx hb dX11_foretoldOf_65 rfl ?_
        refine lv_lmul hx hb dX11_foretoldOf_66 ?_
        subst hQ
        exact W.lret (v := (fsum (onB f0 f1 f2 f3 j) g i5) * ((f4 j).toInt64)) hx hb hr (fun t ht hW => ⟨(fsum (onB f0 f1 f2 f3 j) g i5) * ((f4 j).toInt64), rfl, (by rw [hei5]), ht⟩) (fun q h => absurd h List.not_mem_nil) dX11_foretoldOf_67
      · skip
        have hlti5 : i5 < 48 := (Nat.lt_or_ge i5 48).elim id (fun q => absurd (show nI 48 ≤ nI i5 from nI_le q (by omega)) c1)
        refine lv_lload_n hx hb dX11_foretoldOf_12 rfl (lv_at hl 1 rfl) ?_
        refine lv_aload_n hx hb dX11_foretoldOf_13 rfl (lv_at hl 2 rfl) ?_
        refine lv_iload_n hx hb dX11_foretoldOf_14 rfl (lv_at hl 3 rfl) ?_
        refine lv_iload hx hb dX11_foretoldOf_15 (lv_at hl 0 rfl) ?_
        have hPc := hP.sub (ws' := [(qm, .inr (11, [w0, w1, .ref rg, w3, w4, w5, w6, w7, w8, w9, w10, w11, .ref ra, .ref rc, .ref rb, .ref rd, .ref re, w17, w18, w19, w20, w21, w22, w23, w24, w25, w26, w27, w28, w29, w30, w31, w32, w33, w34, w35, w36, w37, w38])), (ra, .inl (cI, 12, .inl f0)), (rb, .inl (cI, 12, .inl f1)), (rc, .inl (cI, 12, .inl f2)), (rd, .inl (cI, 12, .inl f3))]) [0, 1, 2, 3, 4] rfl
        have hDc := hD.sub (ws' := [(qm, .inr (11, [w0, w1, .ref rg, w3, w4, w5, w6, w7, w8, w9, w10, w11, .ref ra, .ref rc, .ref rb, .ref rd, .ref re, w17, w18, w19, w20, w21, w22, w23, w24, w25, w26, w27, w28, w29, w30, w31, w32, w33, w34, w35, w36, w37, w38])), (ra, .inl (cI, 12, .inl f0)), (rb, .inl (cI, 12, .inl f1)), (rc, .inl (cI, 12, .inl f2)), (rd, .inl (cI, 12, .inl f3))]) [0, 1, 2, 3, 4] (by decide) rfl
        have hKc := hK.sub (tys' := [(cI, .int)]) [0] rfl
        refine vp_callSi (va_Run.run (va_runV (As := [.int (nI j), .int (nI i5)]) (rest := [.long (fsum (onB f0 f1 f2 f3 j) g i5)]) ⟨hx, hb, hml, hown, hts⟩ (r_isOn l dC dI cI _ qm w0 w1 (.ref rg) w3 w4 w5 w6 w7 w8 w9 w10 w11 (.ref re) w17 w18 w19 w20 w21 w22 w23 w24 w25 w26 w27 w28 w29 w30 w31 w32 w33 w34 w35 w36 w37 w38 ra rb rc rd j i5 f0 f1 f2 f3 hj (by omega)) (cwV 2 hts gX11_foretoldOf_X11_isOn rfl rfl rfl (by decide +kernel) ⟨Nat.le_of_ble_eq_true rfl, Nat.le_of_ble_eq_true rfl⟩) (pw_preV (va_recv hKc hPc (ci := 11) (q0 := 0) rfl rfl) hPc hKc hDc hN) rfl rfl hl.1 rfl (lv_room (Nat.le_of_ble_eq_true rfl)) dX11_foretoldOf_17 ⟨Nat.le_of_ble_eq_true rfl, Nat.le_of_ble_eq_true rfl⟩)) (fun r3 hr3 => ?_)
        have hr3 : r3 = if onB f0 f1 f2 f3 j i5 = true then 1 else 0 := hr3
        refine lv_if_ne (tgt := 27) hx hb dX11_foretoldOf_20 (by decide) (fun c4 => ?_) (fun c4 => ?_)
        · skip
          have c4 := (fa_bool_prop hr3).2.mp c4
          refine lv_iload_n hx hb dX11_foretoldOf_27 rfl (lv_at hl 4 rfl) ?_
          refine lv_if_ne (tgt := 42) hx hb dX11_foretoldOf_28 (by decide) (fun c5 => ?_) (fun c5 => ?_)
          · exact absurd c5 (by decide)
          · skip
            refine lv_aload_n hx hb dX11_foretoldOf_31 rfl (lv_at hl 2 rfl) ?_
            refine va_get (D := (dC, dI)) (ci := 11) (v := .ref rg) (C := RX11) (T := TX11) (N := 39) hx hb hts hiX11 hown hK hP 0 rfl rfl 2 (by decide) (hts (.fieldLink RX11 7 "TributePitchesModel" "low" "[I") (List.mem_of_getElem? (i := 1) rfl)) (fun _ h9 => h9) rfl dX11_foretoldOf_32 ?_
            refine lv_iload hx hb dX11_foretoldOf_35 (lv_at hl 0 rfl) ?_
            refine va_iald hx hb hK hP 6 0 rfl rfl (vp_in_nI (by omega) (by omega)) dX11_foretoldOf_37 ?_
            refine lv_topi (fun v6 ev6 => ?_)
            have ev6 : v6 = g i5 := by rw [ev6]; rw [nI_clamp (by omega)]
            subst ev6
            refine lv_i2l (v := (g i5).toInt64) hx hb dX11_foretoldOf_38 rfl ?_
            refine lv_goto (tgt := 50) hx hb dX11_foretoldOf_39 (by decide) ?_
            refine lv_ladd hx hb dX11_foretoldOf_50 ?_
            refine lv_topl (fun vs evs => ?_)
            have evs : vs = fsum (onB f0 f1 f2 f3 j) g (i5 + 1) := by rw [evs]; rw [fsum, if_pos c4]
            subst evs
            refine lv_lstore_n (lv' := [(3, .long (fsum (onB f0 f1 f2 f3 j) g (i5 + 1))), (5, .int (nI i5)), (0, .ref qm), (1, .int (nI j)), (2, .int 0)]) hx hb dX11_foretoldOf_51 rfl hl (by decide) rfl (fun ls hl => ?_)
            refine lv_iinc (v := nI (i5 + 1)) (lv' := [(5, .int (nI (i5 + 1))), (3, .long (fsum (onB f0 f1 f2 f3 j) g (i5 + 1))), (0, .ref qm), (1, .int (nI j)), (2, .int 0)]) hx hb dX11_foretoldOf_52 hl (k := 1) rfl (nI_1 i5) (by decide) rfl (fun ls hl => ?_)
            refine lv_goto (tgt := 5) hx hb dX11_foretoldOf_55 (by decide) ?_
            exact ihi5 (i5 + 1)  ls (by omega) (by omega)  (lv_sub hl [0, 1, 2, 3, 4] rfl)
        · skip
          have c4 := (fa_bool_prop hr3).1.mp c4
          refine lv_lconst (v := 0) hx hb dX11_foretoldOf_23 (by decide) ?_
          refine lv_goto (tgt := 50) hx hb dX11_foretoldOf_24 (by decide) ?_
          refine lv_ladd hx hb dX11_foretoldOf_50 ?_
          refine lv_topl (fun vs evs => ?_)
          have evs : vs = fsum (onB f0 f1 f2 f3 j) g (i5 + 1) := by rw [evs]; rw [fsum, if_neg c4]
          subst evs
          refine lv_lstore_n (lv' := [(3, .long (fsum (onB f0 f1 f2 f3 j) g (i5 + 1))), (5, .int (nI i5)), (0, .ref qm), (1, .int (nI j)), (2, .int 0)]) hx hb dX11_foretoldOf_51 rfl hl (by decide) rfl (fun ls hl => ?_)
          refine lv_iinc (v := nI (i5 + 1)) (lv' := [(5, .int (nI (i5 + 1))), (3, .long (fsum (onB f0 f1 f2 f3 j) g (i5 + 1))), (0, .ref qm), (1, .int (nI j)), (2, .int 0)]) hx hb dX11_foretoldOf_52 hl (k := 1) rfl (nI_1 i5) (by decide) rfl (fun ls hl => ?_)
          refine lv_goto (tgt := 5) hx hb dX11_foretoldOf_55 (by decide) ?_
          exact ihi5 (i5 + 1)  ls (by omega) (by omega)  (lv_sub hl [0, 1, 2, 3, 4] rfl)
  exact loop5 (48 + 1 - 0) 0  ls (by omega) (by omega)  (lv_sub hl [0, 1, 2, 3, 4] rfl)
set_option maxHeartbeats 4000000 in
set_option maxRecDepth 100000 in
theorem r_foretoldOf_1 (l : Launch) (dC : Nat → ClassId) (dI : Nat → Nat → Nat) (cI : ClassId) (sz : Nat) (qm : Nat) (w0 : Value) (w1 : Value) (w2 : Value) (w4 : Value) (w5 : Value) (w6 : Value) (w7 : Value) (w8 : Value) (w9 : Value) (w10 : Value) (w11 : Value) (w17 : Value) (w18 : Value) (w19 : Value) (w20 : Value) (w21 : Value) (w22 : Value) (w23 : Value) (w24 : Value) (w25 : Value) (w26 : Value) (w27 : Value) (w28 : Value) (w29 : Value) (w30 : Value) (w31 : Value) (w32 : Value) (w33 : Value) (w34 : Value) (w35 : Value) (w36 : Value) (w37 : Value) (w38 : Value) (ra : Nat) (rb : Nat) (rc : Nat) (rd : Nat) (re : Nat) (rg : Nat) (j : Nat) (f0 : Nat → Int32) (f1 : Nat → Int32) (f2 : Nat → Int32) (f3 : Nat → Int32) (f4 : Nat → Int32) (g : Nat → Int32) (hj : j < 12) : Met l yX11_foretoldOf wsX11_foretoldOf ({ frames := 2, cells := 0, slots := 0, locals := 60 }) (pw (dC, dI) [(cI, .int)] [(qm, .inr (11, [w0, w1, w2, .ref rg, w4, w5, w6, w7, w8, w9, w10, w11, .ref ra, .ref rc, .ref rb, .ref rd, .ref re, w17, w18, w19, w20, w21, w22, w23, w24, w25, w26, w27, w28, w29, w30, w31, w32, w33, w34, w35, w36, w37, w38])), (ra, .inl (cI, 12, .inl f0)), (rb, .inl (cI, 12, .inl f1)), (rc, .inl (cI, 12, .inl f2)), (rd, .inl (cI, 12, .inl f3)), (re, .inl (cI, 12, .inl f4)), (rg, .inl (cI, 48, .inl g))] sz [.ref qm, .int (nI j), .int 1]) (vp_Sl (fun r => r = fsum (onB f0 f1 f2 f3 j) g 48 * (f4 j).toInt64)) 0 0 (fun _ => False) := by
  refine pw_met (cc := cX11_foretoldOf) (maxL := 6) (ret := (some .long)) (by decide) rfl (Nat.le_of_ble_eq_true rfl) ?_
  intro p e s m below meth c0 hx hb hr hml hown hlocks hnm hts hP hK hD hN hsz hA hS ls hl
  have hl : lv_has ls 6 [(0, .ref qm), (1, .int (nI j)), (2, .int 1)] := hl
  have hiX11 : ∀ w ∈ wsX110, w ∈ wsX11_foretoldOf := fun _ h => List.mem_cons_of_mem _ (List.mem_append_right _ (h))
  generalize hQ : MQ _ _ _ _ _ _ _ = Q
  refine lv_lconst (v := 0) hx hb dX11_foretoldOf_0 (by decide) ?_
  refine lv_lstore_n (lv' := [(3, .long 0), (0, .ref qm), (1, .int (nI j)), (2, .int 1)]) hx hb dX11_foretoldOf_1 rfl hl (by decide) rfl (fun ls hl => ?_)
  refine lv_iconst (v := 0) hx hb dX11_foretoldOf_2 (by decide) ?_
  refine lv_istore (lv' := [(5, .int 0), (3, .long 0), (0, .ref qm), (1, .int (nI j)), (2, .int 1)]) hx hb dX11_foretoldOf_3 hl (by decide) rfl (fun ls hl => ?_)
  have loop5 : ∀ (ni5 i5 : Nat) (ls : Array Slot), i5 ≤ 48 → 48 + 1 ≤ i5 + ni5 → lv_has ls 6 [(5, .int (nI i5)), (3, .long (fsum (onB f0 f1 f2 f3 j) g i5)), (0, .ref qm), (1, .int (nI j)), (2, .int 1)] → W p l e ({ frames := 2, cells := 0, slots := 0, locals := 60 } : Room) s m ([.ref qm, .int (nI j), .int 1] : List Value).toArray below meth c0 s.heap [] 0 0 Q (F0 m 5 ls []) := by
    intro ni5
    induction ni5 with
    | zero =>
      intro i5  ls h1 h2
      exact absurd h2 (by omega)
    | succ ni5 ihi5 =>
      intro i5  ls hlei5 hni5  hl
      refine lv_iload hx hb dX11_foretoldOf_5 (lv_at hl 0 rfl) ?_
      refine lv_bipush (v := 48) hx hb dX11_foretoldOf_7 (by decide) ?_
      refine lv_icmp_ge (tgt := 58) hx hb dX11_foretoldOf_9 (by decide) (fun c1 => ?_) (fun c1 => ?_)
      · skip
        have hei5 : i5 = 48 := (Nat.lt_or_ge i5 48).elim (fun q => absurd c1 (show ¬ nI 48 ≤ nI i5 from nI_ge q (by omega))) (fun q => by omega)
        refine lv_lload_n hx hb dX11_foretoldOf_58 rfl (lv_at hl 1 rfl) ?_
        refine lv_aload_n hx hb dX11_foretoldOf_59 rfl (lv_at hl 2 rfl) ?_
        refine va_get (D := (dC, dI)) (ci := 11) (v := .ref re) (C := RX11) (T := TX11) (N := 39) hx hb hts hiX11 hown hK hP 0 rfl rfl 16 (by decide) (hts (.fieldLink RX11 46 "TributePitchesModel" "tonsOf" "[I") (List.mem_of_getElem? (i := 3) rfl)) (fun _ h9 => h9) rfl dX11_foretoldOf_60 ?_
        refine lv_iload_n hx hb dX11_foretoldOf_63 rfl (lv_at hl 3 rfl) ?_
        refine va_iald hx hb hK hP 5 0 rfl rfl (vp_in_nI (by omega) (by omega)) dX11_foretoldOf_64 ?_
        refine lv_topi (fun v2 ev2 => ?_)
        have ev2 : v2 = f4 j := by rw [ev2]; rw [nI_clamp (by omega)]
        subst ev2
        refine lv_i2l (v := (f4 j).toInt64) hx hb dX11_foretoldOf_65 rfl ?_
        refine lv_lmul hx hb dX11_foretoldOf_66 ?_
        subst hQ
        exact W.lret (v := (fsum (onB f0 f1 f2 f3 j) g i5) * ((f4 j).toInt64)) hx hb hr (fun t ht hW => ⟨(fsum (onB f0 f1 f2 f3 j) g i5) * ((f4 j).toInt64), rfl, (by rw [hei5]), ht⟩) (fun q h => absurd h List.not_mem_nil) dX11_foretoldOf_67
      · skip
        have hlti5 : i5 < 48 := (Nat.lt_or_ge i5 48).elim id (fun q => absurd (show nI 48 ≤ nI i5 from nI_le q (by omega)) c1)
        refine lv_lload_n hx hb dX11_foretoldOf_12 rfl (lv_at hl 1 rfl) ?_
        refine lv_aload_n hx hb dX11_foretoldOf_13 rfl (lv_at hl 2 rfl) ?_
        refine lv_iload_n hx hb dX11_foretoldOf_14 rfl (lv_at hl 3 rfl) ?_
        refine lv_iload hx hb dX11_foretoldOf_15 (lv_at hl 0 rfl) ?_
        have hPc := hP.sub (ws' := [(qm, .inr (11, [w0, w1, w2, .ref rg, w4, w5, w6, w7, w8, w9, w10, w11, .ref ra, .ref rc, .ref rb, .ref rd, .ref re, w17, w18, w19, w20, w21, w22, w23, w24, w25, w26, w27, w28, w29, w30, w31, w32, w33, w34, w35, w36, w37, w38])), (ra, .inl (cI, 12, .inl f0)), (rb, .inl (cI, 12, .inl f1)), (rc, .inl (cI, 12, .inl f2)), (rd, .inl (cI, 12, .inl f3))]) [0, 1, 2, 3, 4] rfl
        have hDc := hD.sub (ws' := [(qm, .inr (11, [w0, w1, w2, .ref rg, w4, w5, w6, w7, w8, w9, w10, w11, .ref ra, .ref rc, .ref rb, .ref rd, .ref re, w17, w18, w19, w20, w21, w22, w23, w24, w25, w26, w27, w28, w29, w30, w31, w32, w33, w34, w35, w36, w37, w38])), (ra, .inl (cI, 12, .inl f0)), (rb, .inl (cI, 12, .inl f1)), (rc, .inl (cI, 12, .inl f2)), (rd, .inl (cI, 12, .inl f3))]) [0, 1, 2, 3, 4] (by decide) rfl
        have hKc := hK.sub (tys' := [(cI, .int)]) [0] rfl
        refine vp_callSi (va_Run.run (va_runV (As := [.int (nI j), .int (nI i5)]) (rest := [.long (fsum (onB f0 f1 f2 f3 j) g i5)]) ⟨hx, hb, hml, hown, hts⟩ (r_isOn l dC dI cI _ qm w0 w1 w2 (.ref rg) w4 w5 w6 w7 w8 w9 w10 w11 (.ref re) w17 w18 w19 w20 w21 w22 w23 w24 w25 w26 w27 w28 w29 w30 w31 w32 w33 w34 w35 w36 w37 w38 ra rb rc rd j i5 f0 f1 f2 f3 hj (by omega)) (cwV 2 hts gX11_foretoldOf_X11_isOn rfl rfl rfl (by decide +kernel) ⟨Nat.le_of_ble_eq_true rfl, Nat.le_of_ble_eq_true rfl⟩) (pw_preV (va_recv hKc hPc (ci := 11) (q0 := 0) rfl rfl) hPc hKc hDc hN) rfl rfl hl.1 rfl (lv_room (Nat.le_of_ble_eq_true rfl)) dX11_foretoldOf_17 ⟨Nat.le_of_ble_eq_true rfl, Nat.le_of_ble_eq_true rfl⟩)) (fun r3 hr3 => ?_)
        have hr3 : r3 = if onB f0 f1 f2 f3 j i5 = true then 1 else 0 := hr3
        refine lv_if_ne (tgt := 27) hx hb dX11_foretoldOf_20 (by decide) (fun c4 => ?_) (fun c4 => ?_)
        · skip
          have c4 := (fa_bool_prop hr3).2.mp c4
          refine lv_iload_n hx hb dX11_foretoldOf_27 rfl (lv_at hl 4 rfl) ?_
          refine lv_if_ne (tgt := 42) hx hb dX11_foretoldOf_28 (by decide) (fun c5 => ?_) (fun c5 => ?_)
          · skip
            refine lv_aload_n hx hb dX11_foretoldOf_42 rfl (lv_at hl 2 rfl) ?_
            refine va_get (D := (dC, dI)) (ci := 11) (v := .ref rg) (C := RX11) (T := TX11) (N := 39) hx hb hts hiX11 hown hK hP 0 rfl rfl 3 (by decide) (hts (.fieldLink RX11 13 "TributePitchesModel" "high" "[I") (List.mem_of_getElem? (i := 2) rfl)) (fun _ h9 => h9) rfl dX11_foretoldOf_43 ?_
            refine lv_iload hx hb dX11_foretoldOf_46 (lv_at hl 0 rfl) ?_
            refine va_iald hx hb hK hP 6 0 rfl rfl (vp_in_nI (by omega) (by omega)) dX11_foretoldOf_48 ?_
            refine lv_topi (fun v6 ev6 => ?_)
            have ev6 : v6 = g i5 := by rw [ev6]; rw [nI_clamp (by omega)]
            subst ev6
            refine lv_i2l (v := (g i5).toInt64) hx hb dX11_foretoldOf_49 rfl ?_
            refine lv_ladd hx hb dX11_foretoldOf_50 ?_
            refine lv_topl (fun vs evs => ?_)
            have evs : vs = fsum (onB f0 f1 f2 f3 j) g (i5 + 1) := by rw [evs]; rw [fsum, if_pos c4]
            subst evs
            refine lv_lstore_n (lv' := [(3, .long (fsum (onB f0 f1 f2 f3 j) g (i5 + 1))), (5, .int (nI i5)), (0, .ref qm), (1, .int (nI j)), (2, .int 1)]) hx hb dX11_foretoldOf_51 rfl hl (by decide) rfl (fun ls hl => ?_)
            refine lv_iinc (v := nI (i5 + 1)) (lv' := [(5, .int (nI (i5 + 1))), (3, .long (fsum (onB f0 f1 f2 f3 j) g (i5 + 1))), (0, .ref qm), (1, .int (nI j)), (2, .int 1)]) hx hb dX11_foretoldOf_52 hl (k := 1) rfl (nI_1 i5) (by decide) rfl (fun ls hl => ?_)
            refine lv_goto (tgt := 5) hx hb dX11_foretoldOf_55 (by decide) ?_
            exact ihi5 (i5 + 1)  ls (by omega) (by omega)  (lv_sub hl [0, 1, 2, 3, 4] rfl)
          · exact absurd c5 (by decide)
        · skip
          have c4 := (fa_bool_prop hr3).1.mp c4
          refine lv_lconst (v := 0) hx hb dX11_foretoldOf_23 (by decide) ?_
          refine lv_goto (tgt := 50) hx hb dX11_foretoldOf_24 (by decide) ?_
          refine lv_ladd hx hb dX11_foretoldOf_50 ?_
          refine lv_topl (fun vs evs => ?_)
          have evs : vs = fsum (onB f0 f1 f2 f3 j) g (i5 + 1) := by rw [evs]; rw [fsum, if_neg c4]
          subst evs
          refine lv_lstore_n (lv' := [(3, .long (fsum (onB f0 f1 f2 f3 j) g (i5 + 1))), (5, .int (nI i5)), (0, .ref qm), (1, .int (nI j)), (2, .int 1)]) hx hb dX11_foretoldOf_51 rfl hl (by decide) rfl (fun ls hl => ?_)
          refine lv_iinc (v := nI (i5 + 1)) (lv' := [(5, .int (nI (i5 + 1))), (3, .long (fsum (onB f0 f1 f2 f3 j) g (i5 + 1))), (0, .ref qm), (1, .int (nI j)), (2, .int 1)]) hx hb dX11_foretoldOf_52 hl (k := 1) rfl (nI_1 i5) (by decide) rfl (fun ls hl => ?_)
          refine lv_goto (tgt := 5) hx hb dX11_foretoldOf_55 (by decide) ?_
          exact ihi5 (i5 + 1)  ls (by omega) (by omega)  (lv_sub hl [0, 1, 2, 3, 4] rfl)
  exact loop5 (48 + 1 - 0) 0  ls (by omega) (by omega)  (lv_sub hl [0, 1, 2, 3, 4] rfl)
set_option maxHeartbeats 4000000 in
set_option maxRecDepth 100000 in
theorem r_isSuspect (l : Launch) (dC : Nat → ClassId) (dI : Nat → Nat → Nat) (cI : ClassId) (sz : Nat) (qm : Nat) (w0 : Value) (w1 : Value) (w2 : Value) (w4 : Value) (w5 : Value) (w6 : Value) (w7 : Value) (w8 : Value) (w9 : Value) (w10 : Value) (w11 : Value) (w16 : Value) (w17 : Value) (w18 : Value) (w19 : Value) (w20 : Value) (w21 : Value) (w22 : Value) (w23 : Value) (w24 : Value) (w25 : Value) (w27 : Value) (w28 : Value) (w29 : Value) (w30 : Value) (w31 : Value) (w32 : Value) (w33 : Value) (w34 : Value) (w36 : Value) (w38 : Value) (ra : Nat) (rb : Nat) (rc : Nat) (rd : Nat) (rg : Nat) (rp : Nat) (rt : Nat) (rh : Nat) (jk : Nat) (jt : Nat) (j : Nat) (f0 : Nat → Int32) (f1 : Nat → Int32) (f2 : Nat → Int32) (f3 : Nat → Int32) (g : Nat → Int32) (fp : Nat → Int32) (ft : Nat → Int32) (fg : Nat → Int32) (hjk : jk < 80) (hjt : jt < 40) (hj : j < 12) (e1 : ft jk = nI jt) (e2 : fp jt = nI j) : Met l yX11_isSuspect wsX11_isSuspect ({ frames := 2, cells := 0, slots := 0, locals := 60 }) (pw (dC, dI) [(cI, .int)] [(qm, .inr (11, [w0, w1, w2, .ref rg, w4, w5, w6, w7, w8, w9, w10, w11, .ref ra, .ref rc, .ref rb, .ref rd, w16, w17, w18, w19, w20, w21, w22, w23, w24, w25, .ref rp, w27, w28, w29, w30, w31, w32, w33, w34, .ref rt, w36, .ref rh, w38])), (ra, .inl (cI, 12, .inl f0)), (rb, .inl (cI, 12, .inl f1)), (rc, .inl (cI, 12, .inl f2)), (rd, .inl (cI, 12, .inl f3)), (rg, .inl (cI, 48, .inl g)), (rp, .inl (cI, 40, .inl fp)), (rt, .inl (cI, 80, .inl ft)), (rh, .inl (cI, 80, .inl fg))] sz [.ref qm, .int (nI jk)]) (vp_Si (fun r => r = if smax (onB f0 f1 f2 f3 j) g 48 < fg jk then 1 else 0)) 0 0 (fun _ => False) := by
  refine pw_met (cc := cX11_isSuspect) (maxL := 5) (ret := (some .boolean)) (by decide) rfl (Nat.le_of_ble_eq_true rfl) ?_
  intro p e s m below meth c0 hx hb hr hml hown hlocks hnm hts hP hK hD hN hsz hA hS ls hl
  have hl : lv_has ls 5 [(0, .ref qm), (1, .int (nI jk))] := hl
  have hiX11 : ∀ w ∈ wsX110, w ∈ wsX11_isSuspect := fun _ h => List.mem_cons_of_mem _ (List.mem_append_right _ (h))
  generalize hQ : MQ _ _ _ _ _ _ _ = Q
  refine lv_aload_n hx hb dX11_isSuspect_0 rfl (lv_at hl 0 rfl) ?_
  refine va_get (D := (dC, dI)) (ci := 11) (v := .ref rp) (C := RX11) (T := TX11) (N := 39) hx hb hts hiX11 hown hK hP 0 rfl rfl 26 (by decide) (hts (.fieldLink RX11 59 "TributePitchesModel" "pitchOf" "[I") (List.mem_of_getElem? (i := 1) rfl)) (fun _ h9 => h9) rfl dX11_isSuspect_1 ?_
  refine lv_aload_n hx hb dX11_isSuspect_4 rfl (lv_at hl 0 rfl) ?_
  refine va_get (D := (dC, dI)) (ci := 11) (v := .ref rt) (C := RX11) (T := TX11) (N := 39) hx hb hts hiX11 hown hK hP 0 rfl rfl 35 (by decide) (hts (.fieldLink RX11 84 "TributePitchesModel" "parcelTake" "[I") (List.mem_of_getElem? (i := 2) rfl)) (fun _ h9 => h9) rfl dX11_isSuspect_5 ?_
  refine lv_iload_n hx hb dX11_isSuspect_8 rfl (lv_at hl 1 rfl) ?_
  refine va_iald hx hb hK hP 7 0 rfl rfl (vp_in_nI (by omega) (by omega)) dX11_isSuspect_9 ?_
  refine lv_topi (fun v1 ev1 => ?_)
  have ev1 : v1 = nI jt := by rw [ev1]; rw [nI_clamp (by omega)]; exact e1
  subst ev1
  refine va_iald hx hb hK hP 6 0 rfl rfl (vp_in_nI (by omega) (by omega)) dX11_isSuspect_10 ?_
  refine lv_topi (fun v2 ev2 => ?_)
  have ev2 : v2 = nI j := by rw [ev2]; rw [nI_clamp (by omega)]; exact e2
  subst ev2
  refine lv_istore_n (lv' := [(2, .int (nI j)), (0, .ref qm), (1, .int (nI jk))]) hx hb dX11_isSuspect_11 rfl hl (by decide) rfl (fun ls hl => ?_)
  refine lv_iconst (v := 0) hx hb dX11_isSuspect_12 (by decide) ?_
  refine lv_istore_n (lv' := [(3, .int 0), (2, .int (nI j)), (0, .ref qm), (1, .int (nI jk))]) hx hb dX11_isSuspect_13 rfl hl (by decide) rfl (fun ls hl => ?_)
  refine lv_iconst (v := 0) hx hb dX11_isSuspect_14 (by decide) ?_
  refine lv_istore (lv' := [(4, .int 0), (3, .int 0), (2, .int (nI j)), (0, .ref qm), (1, .int (nI jk))]) hx hb dX11_isSuspect_15 hl (by decide) rfl (fun ls hl => ?_)
  have loop17 : ∀ (ni17 i17 : Nat) (ls : Array Slot), i17 ≤ 48 → 48 + 1 ≤ i17 + ni17 → lv_has ls 5 [(4, .int (nI i17)), (3, .int (smax (onB f0 f1 f2 f3 j) g i17)), (2, .int (nI j)), (0, .ref qm), (1, .int (nI jk))] → W p l e ({ frames := 2, cells := 0, slots := 0, locals := 60 } : Room) s m ([.ref qm, .int (nI jk)] : List Value).toArray below meth c0 s.heap [] 0 0 Q (F0 m 17 ls []) := by
    intro ni17
    induction ni17 with
    | zero =>
      intro i17  ls h1 h2
      exact absurd h2 (by omega)
    | succ ni17 ihi17 =>
      intro i17  ls hlei17 hni17  hl
      refine lv_iload hx hb dX11_isSuspect_17 (lv_at hl 0 rfl) ?_
      refine lv_bipush (v := 48) hx hb dX11_isSuspect_19 (by decide) ?_
      refine lv_icmp_ge (tgt := 63) hx hb dX11_isSuspect_21 (by decide) (fun c3 => ?_) (fun c3 => ?_)
      · skip
        have hei17 : i17 = 48 := (Nat.lt_or_ge i17 48).elim (fun q => absurd c3 (show ¬ nI 48 ≤ nI i17 from nI_ge q (by omega))) (fun q => by omega)
        refine lv_aload_n hx hb dX11_isSuspect_63 rfl (lv_at hl 3 rfl) ?_
        refine va_get (D := (dC, dI)) (ci := 11) (v := .ref rh) (C := RX11) (T := TX11) (N := 39) hx hb hts hiX11 hown hK hP 0 rfl rfl 37 (by decide) (hts (.fieldLink RX11 90 "TributePitchesModel" "parcelGood" "[I") (List.mem_of_getElem? (i := 4) rfl)) (fun _ h9 => h9) rfl dX11_isSuspect_64 ?_
        refine lv_iload_n hx hb dX11_isSuspect_67 rfl (lv_at hl 4 rfl) ?_
        refine va_iald hx hb hK hP 8 0 rfl rfl (vp_in_nI (by omega) (by omega)) dX11_isSuspect_68 ?_
        refine lv_topi (fun v4 ev4 => ?_)
        have ev4 : v4 = fg jk := by rw [ev4]; rw [nI_clamp (by omega)]
        subst ev4
        refine lv_iload_n hx hb dX11_isSuspect_69 rfl (lv_at hl 1 rfl) ?_
        refine lv_icmp_le (tgt := 77) hx hb dX11_isSuspect_70 (by decide) (fun c5 => ?_) (fun c5 => ?_)
        · skip
          refine lv_iconst (v := 0) hx hb dX11_isSuspect_77 (by decide) ?_
          subst hQ
          exact W.zret (v := 0) hx hb hr rfl (fun t ht hW => ⟨0, rfl, (by rw [if_neg (Int32.not_lt.mpr (hei17 ▸ c5))]), ht⟩) (fun q h => absurd h List.not_mem_nil) dX11_isSuspect_78
        · skip
          refine lv_iconst (v := 1) hx hb dX11_isSuspect_73 (by decide) ?_
          refine lv_goto (tgt := 78) hx hb dX11_isSuspect_74 (by decide) ?_
          subst hQ
          exact W.zret (v := 1) hx hb hr rfl (fun t ht hW => ⟨1, rfl, (by rw [if_pos (Int32.not_le.mp (hei17 ▸ c5))]), ht⟩) (fun q h => absurd h List.not_mem_nil) dX11_isSuspect_78
      · skip
        have hlti17 : i17 < 48 := (Nat.lt_or_ge i17 48).elim id (fun q => absurd (show nI 48 ≤ nI i17 from nI_le q (by omega)) c3)
        refine lv_aload_n hx hb dX11_isSuspect_24 rfl (lv_at hl 3 rfl) ?_
        refine lv_iload_n hx hb dX11_isSuspect_25 rfl (lv_at hl 2 rfl) ?_
        refine lv_iload hx hb dX11_isSuspect_26 (lv_at hl 0 rfl) ?_
        have hPc := hP.sub (ws' := [(qm, .inr (11, [w0, w1, w2, .ref rg, w4, w5, w6, w7, w8, w9, w10, w11, .ref ra, .ref rc, .ref rb, .ref rd, w16, w17, w18, w19, w20, w21, w22, w23, w24, w25, .ref rp, w27, w28, w29, w30, w31, w32, w33, w34, .ref rt, w36, .ref rh, w38])), (ra, .inl (cI, 12, .inl f0)), (rb, .inl (cI, 12, .inl f1)), (rc, .inl (cI, 12, .inl f2)), (rd, .inl (cI, 12, .inl f3))]) [0, 1, 2, 3, 4] rfl
        have hDc := hD.sub (ws' := [(qm, .inr (11, [w0, w1, w2, .ref rg, w4, w5, w6, w7, w8, w9, w10, w11, .ref ra, .ref rc, .ref rb, .ref rd, w16, w17, w18, w19, w20, w21, w22, w23, w24, w25, .ref rp, w27, w28, w29, w30, w31, w32, w33, w34, .ref rt, w36, .ref rh, w38])), (ra, .inl (cI, 12, .inl f0)), (rb, .inl (cI, 12, .inl f1)), (rc, .inl (cI, 12, .inl f2)), (rd, .inl (cI, 12, .inl f3))]) [0, 1, 2, 3, 4] (by decide) rfl
        have hKc := hK.sub (tys' := [(cI, .int)]) [0] rfl
        refine vp_callSi (va_Run.run (va_runV (As := [.int (nI j), .int (nI i17)]) (rest := []) ⟨hx, hb, hml, hown, hts⟩ (r_isOn l dC dI cI _ qm w0 w1 w2 (.ref rg) w4 w5 w6 w7 w8 w9 w10 w11 w16 w17 w18 w19 w20 w21 w22 w23 w24 w25 (.ref rp) w27 w28 w29 w30 w31 w32 w33 w34 (.ref rt) w36 (.ref rh) w38 ra rb rc rd j i17 f0 f1 f2 f3 hj (by omega)) (cwV 2 hts gX11_isSuspect_X11_isOn rfl rfl rfl (by decide +kernel) ⟨Nat.le_of_ble_eq_true rfl, Nat.le_of_ble_eq_true rfl⟩) (pw_preV (va_recv hKc hPc (ci := 11) (q0 := 0) rfl rfl) hPc hKc hDc hN) rfl rfl hl.1 rfl (lv_room (Nat.le_of_ble_eq_true rfl)) dX11_isSuspect_28 ⟨Nat.le_of_ble_eq_true rfl, Nat.le_of_ble_eq_true rfl⟩)) (fun r6 hr6 => ?_)
        have hr6 : r6 = if onB f0 f1 f2 f3 j i17 = true then 1 else 0 := hr6
        refine lv_if_eq (tgt := 55) hx hb dX11_isSuspect_31 (by decide) (fun c7 => ?_) (fun c7 => ?_)
        · skip
          have c7 := (fa_bool_prop hr6).1.mp c7
          refine lv_iload_n hx hb dX11_isSuspect_55 rfl (lv_at hl 1 rfl) ?_
          refine lv_istore_n (lv' := [(3, .int (smax (onB f0 f1 f2 f3 j) g i17)), (4, .int (nI i17)), (2, .int (nI j)), (0, .ref qm), (1, .int (nI jk))]) hx hb dX11_isSuspect_56 rfl hl (by decide) rfl (fun ls hl => ?_)
          refine lv_iinc (v := nI (i17 + 1)) (lv' := [(4, .int (nI (i17 + 1))), (3, .int (smax (onB f0 f1 f2 f3 j) g i17)), (2, .int (nI j)), (0, .ref qm), (1, .int (nI jk))]) hx hb dX11_isSuspect_57 hl (k := 1) rfl (nI_1 i17) (by decide) rfl (fun ls hl => ?_)
          refine lv_goto (tgt := 17) hx hb dX11_isSuspect_60 (by decide) ?_
          have e9 : smax (onB f0 f1 f2 f3 j) g (i17 + 1) = smax (onB f0 f1 f2 f3 j) g i17 := by rw [smax]; simp [c7]
          rw [← e9] at hl
          have hl : lv_has ls 5 [(4, .int (nI (i17 + 1))), (3, .int (smax (onB f0 f1 f2 f3 j) g (i17 + 1))), (2, .int (nI j)), (0, .ref qm), (1, .int (nI jk))] := hl
          exact ihi17 (i17 + 1)  ls (by omega) (by omega)  (lv_sub hl [0, 1, 2, 3, 4] rfl)
        · skip
          have c7 := (fa_bool_prop hr6).2.mp c7
          refine lv_aload_n hx hb dX11_isSuspect_34 rfl (lv_at hl 3 rfl) ?_
          refine va_get (D := (dC, dI)) (ci := 11) (v := .ref rg) (C := RX11) (T := TX11) (N := 39) hx hb hts hiX11 hown hK hP 0 rfl rfl 3 (by decide) (hts (.fieldLink RX11 13 "TributePitchesModel" "high" "[I") (List.mem_of_getElem? (i := 3) rfl)) (fun _ h9 => h9) rfl dX11_isSuspect_35 ?_
          refine lv_iload hx hb dX11_isSuspect_38 (lv_at hl 0 rfl) ?_
          refine va_iald hx hb hK hP 5 0 rfl rfl (vp_in_nI (by omega) (by omega)) dX11_isSuspect_40 ?_
          refine lv_topi (fun v8 ev8 => ?_)
          have ev8 : v8 = g i17 := by rw [ev8]; rw [nI_clamp (by omega)]
          subst ev8
          refine lv_iload_n hx hb dX11_isSuspect_41 rfl (lv_at hl 1 rfl) ?_
          refine lv_icmp_le (tgt := 55) hx hb dX11_isSuspect_42 (by decide) (fun c9 => ?_) (fun c9 => ?_)
          · skip
            refine lv_iload_n hx hb dX11_isSuspect_55 rfl (lv_at hl 1 rfl) ?_
            refine lv_istore_n (lv' := [(3, .int (smax (onB f0 f1 f2 f3 j) g i17)), (4, .int (nI i17)), (2, .int (nI j)), (0, .ref qm), (1, .int (nI jk))]) hx hb dX11_isSuspect_56 rfl hl (by decide) rfl (fun ls hl => ?_)
            refine lv_iinc (v := nI (i17 + 1)) (lv' := [(4, .int (nI (i17 + 1))), (3, .int (smax (onB f0 f1 f2 f3 j) g i17)), (2, .int (nI j)), (0, .ref qm), (1, .int (nI jk))]) hx hb dX11_isSuspect_57 hl (k := 1) rfl (nI_1 i17) (by decide) rfl (fun ls hl => ?_)
            refine lv_goto (tgt := 17) hx hb dX11_isSuspect_60 (by decide) ?_
            have e9 : smax (onB f0 f1 f2 f3 j) g (i17 + 1) = smax (onB f0 f1 f2 f3 j) g i17 := by rw [smax]; simp [c7, Int32.not_lt.mpr c9]
            rw [← e9] at hl
            have hl : lv_has ls 5 [(4, .int (nI (i17 + 1))), (3, .int (smax (onB f0 f1 f2 f3 j) g (i17 + 1))), (2, .int (nI j)), (0, .ref qm), (1, .int (nI jk))] := hl
            exact ihi17 (i17 + 1)  ls (by omega) (by omega)  (lv_sub hl [0, 1, 2, 3, 4] rfl)
          · skip
            refine lv_aload_n hx hb dX11_isSuspect_45 rfl (lv_at hl 3 rfl) ?_
            refine va_get (D := (dC, dI)) (ci := 11) (v := .ref rg) (C := RX11) (T := TX11) (N := 39) hx hb hts hiX11 hown hK hP 0 rfl rfl 3 (by decide) (hts (.fieldLink RX11 13 "TributePitchesModel" "high" "[I") (List.mem_of_getElem? (i := 3) rfl)) (fun _ h9 => h9) rfl dX11_isSuspect_46 ?_
            refine lv_iload hx hb dX11_isSuspect_49 (lv_at hl 0 rfl) ?_
            refine va_iald hx hb hK hP 5 0 rfl rfl (vp_in_nI (by omega) (by omega)) dX11_isSuspect_51 ?_
            refine lv_topi (fun v10 ev10 => ?_)
            have ev10 : v10 = g i17 := by rw [ev10]; rw [nI_clamp (by omega)]
            subst ev10
            refine lv_goto (tgt := 56) hx hb dX11_isSuspect_52 (by decide) ?_
            refine lv_istore_n (lv' := [(3, .int (g i17)), (4, .int (nI i17)), (2, .int (nI j)), (0, .ref qm), (1, .int (nI jk))]) hx hb dX11_isSuspect_56 rfl hl (by decide) rfl (fun ls hl => ?_)
            refine lv_iinc (v := nI (i17 + 1)) (lv' := [(4, .int (nI (i17 + 1))), (3, .int (g i17)), (2, .int (nI j)), (0, .ref qm), (1, .int (nI jk))]) hx hb dX11_isSuspect_57 hl (k := 1) rfl (nI_1 i17) (by decide) rfl (fun ls hl => ?_)
            refine lv_goto (tgt := 17) hx hb dX11_isSuspect_60 (by decide) ?_
            have e9 : smax (onB f0 f1 f2 f3 j) g (i17 + 1) = g i17 := by rw [smax]; simp [c7, Int32.not_le.mp c9]
            rw [← e9] at hl
            have hl : lv_has ls 5 [(4, .int (nI (i17 + 1))), (3, .int (smax (onB f0 f1 f2 f3 j) g (i17 + 1))), (2, .int (nI j)), (0, .ref qm), (1, .int (nI jk))] := hl
            exact ihi17 (i17 + 1)  ls (by omega) (by omega)  (lv_sub hl [0, 1, 2, 3, 4] rfl)
  exact loop17 (48 + 1 - 0) 0  ls (by omega) (by omega)  (lv_sub hl [0, 1, 2, 3, 4] rfl)
