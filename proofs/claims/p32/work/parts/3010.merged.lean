def pR_about (zr : RS2) (pp : Int32) (wh : Int32) (r : Int32) (u : RS2) : Prop :=
  ((∀ j, j < rs_n zr 0 → pp ≠ nI j) ∧ r = ((-1)) ∧ u = zr) ∨
  (∃ jp : Nat, pp = nI jp ∧ (jp < rs_n zr 0) ∧ wh = 0 ∧ r = ((rs_I zr 12) jp) ∧ u = zr) ∨
  (∃ jp : Nat, pp = nI jp ∧ (jp < rs_n zr 0) ∧ wh = 1 ∧ r = ((rs_I zr 13) jp) ∧ u = zr) ∨
  (∃ jp : Nat, pp = nI jp ∧ (jp < rs_n zr 0) ∧ wh = 2 ∧ r = ((rs_I zr 14) jp) ∧ u = zr) ∨
  (∃ jp : Nat, pp = nI jp ∧ (jp < rs_n zr 0) ∧ wh = 3 ∧ r = ((rs_I zr 15) jp) ∧ u = zr) ∨
  (∃ jp : Nat, pp = nI jp ∧ (jp < rs_n zr 0) ∧ wh = 4 ∧ r = ((rs_I zr 16) jp) ∧ u = zr) ∨
  (∃ jp : Nat, pp = nI jp ∧ (jp < rs_n zr 0) ∧ wh = 5 ∧ ∃ r15 : Int32, ((r15 = -9 ∧ ∀ u, u < (rs_n zr 2) → ¬ ((rs_I zr 26) u = (nI jp) ∧ (rs_I zr 28) u = 0)) ∨ (∃ u, u < (rs_n zr 2) ∧ r15 = nI u ∧ ((rs_I zr 26) u = (nI jp) ∧ (rs_I zr 28) u = 0) ∧ ∀ v, v < u → ¬ ((rs_I zr 26) v = (nI jp) ∧ (rs_I zr 28) v = 0))) ∧ r = (r15) ∧ u = zr) ∨
  (∃ jp : Nat, pp = nI jp ∧ (jp < rs_n zr 0) ∧ wh = 6 ∧ r = (nI (fa_cnt (fun t => decide ((rs_I zr 26) t = (nI jp))) (rs_n zr 2))) ∧ u = zr) ∨
  (∃ jp : Nat, pp = nI jp ∧ (jp < rs_n zr 0) ∧ (¬ wh = 0) ∧ (¬ wh = 1) ∧ (¬ wh = 2) ∧ (¬ wh = 3) ∧ (¬ wh = 4) ∧ (¬ wh = 5) ∧ (¬ wh = 6) ∧ r = ((-2)) ∧ u = zr)
set_option maxHeartbeats 4000000 in
set_option maxRecDepth 100000 in
theorem M_about (l : Launch) (dC : Nat → ClassId) (dI : Nat → Nat → Nat) (cI cJ cZ : ClassId) (sz : Nat) (qm : Nat) (ad : Nat → Nat) (zr : RS2) (pp : Int32) (wh : Int32) (hI : invR zr) : Met l yX11_about wsX11_about ({ frames := 3, cells := 0, slots := 0, locals := 90 }) (pw (dC, dI) [(cI, .int), (cJ, .long), (cZ, .boolean)] (rW qm cI cJ cZ ad zr) sz [.ref qm, .int pp, .int wh]) (va_Qi (fun r (u : RS2) => invR u ∧ pR_about zr pp wh r u) (fun u t => bw (dC, dI) [(cI, .int), (cJ, .long), (cZ, .boolean)] (va_A (rW qm cI cJ cZ ad zr) sz) (rW qm cI cJ cZ ad u) t) (va_A (rW qm cI cJ cZ ad zr) sz)) 0 0 (va_A (rW qm cI cJ cZ ad zr) sz) := by
  refine pw_met (cc := cX11_about) (maxL := 3) (ret := (some .int)) (by decide) rfl (Nat.le_of_ble_eq_true rfl) ?_
  intro p e s m below meth c0 hx hb hr hml hown hlocks hnm hts hP0 hK hD0 hN hsz hA hS ls hl
  subst hsz
  have hP : va_P (dC, dI) vwCl [rcO qm ad zr, rcI cI ad zr 2 48, rcI cI ad zr 3 48, rcI cI ad zr 4 48, rcI cI ad zr 5 48, rcI cI ad zr 7 4, rcI cI ad zr 8 4, rcI cI ad zr 9 192, rcI cI ad zr 10 48, rcI cI ad zr 12 12, rcI cI ad zr 13 12, rcI cI ad zr 14 12, rcI cI ad zr 15 12, rcI cI ad zr 16 12, rcI cI ad zr 18 8, rcJ cJ ad zr 19 8, rcI cI ad zr 25 40, rcI cI ad zr 26 40, rcI cI ad zr 27 40, rcI cZ ad zr 28 40, rcJ cJ ad zr 29 40, rcJ cJ ad zr 30 40, rcJ cJ ad zr 31 40, rcJ cJ ad zr 32 40, rcJ cJ ad zr 33 40, rcI cI ad zr 35 80, rcI cI ad zr 36 80, rcI cI ad zr 37 80] s.heap := hP0
  have hD : va_D (va_A (rW qm cI cJ cZ ad zr) s.heap.size) [rcO qm ad zr, rcI cI ad zr 2 48, rcI cI ad zr 3 48, rcI cI ad zr 4 48, rcI cI ad zr 5 48, rcI cI ad zr 7 4, rcI cI ad zr 8 4, rcI cI ad zr 9 192, rcI cI ad zr 10 48, rcI cI ad zr 12 12, rcI cI ad zr 13 12, rcI cI ad zr 14 12, rcI cI ad zr 15 12, rcI cI ad zr 16 12, rcI cI ad zr 18 8, rcJ cJ ad zr 19 8, rcI cI ad zr 25 40, rcI cI ad zr 26 40, rcI cI ad zr 27 40, rcI cZ ad zr 28 40, rcJ cJ ad zr 29 40, rcJ cJ ad zr 30 40, rcJ cJ ad zr 31 40, rcJ cJ ad zr 32 40, rcJ cJ ad zr 33 40, rcI cI ad zr 35 80, rcI cI ad zr 36 80, rcI cI ad zr 37 80] := hD0
  obtain ⟨⟨hn0, hn1, hn2, hn3⟩, hfar, hlh, hss, hsold, htk, hpk⟩ := id hI
  have hl : lv_has ls 3 [(0, .ref qm), (1, .int pp), (2, .int wh)] := hl
  have hiX11 : ∀ w ∈ wsX110, w ∈ wsX11_about := fun _ h => List.mem_cons_of_mem _ (List.mem_append_right _ (h))
  generalize hQ : MQ _ _ _ _ _ _ _ = Q
  refine lv_aload_n hx hb dX11_about_0 rfl (lv_at hl 0 rfl) ?_
  refine lv_iload_n hx hb dX11_about_1 rfl (lv_at hl 1 rfl) ?_
  have hPc := hP.sub (ws' := [rcO qm ad zr]) [0] rfl
  have hDc := hD.sub (ws' := [rcO qm ad zr]) [0] (by decide) rfl
  have hKc := hK.sub (tys' := []) [] rfl
  refine vp_callSi (va_Run.run (va_runV (As := [.int pp]) (rest := []) ⟨hx, hb, hml, hown, hts⟩ (r_X11_noPitch l dC dI  _ qm (.int (rs_i zr 0)) (.int (rs_i zr 1)) (.ref (ad 2)) (.ref (ad 3)) (.ref (ad 4)) (.ref (ad 5)) (.int (rs_i zr 6)) (.ref (ad 7)) (.ref (ad 8)) (.ref (ad 9)) (.ref (ad 10)) (.ref (ad 12)) (.ref (ad 13)) (.ref (ad 14)) (.ref (ad 15)) (.ref (ad 16)) (.int (nI (rs_n zr 1))) (.ref (ad 18)) (.ref (ad 19)) (.int (rs_i zr 20)) (.int (rs_i zr 21)) (.int (rs_i zr 22)) (.int (rs_i zr 23)) (.int (nI (rs_n zr 2))) (.ref (ad 25)) (.ref (ad 26)) (.ref (ad 27)) (.ref (ad 28)) (.ref (ad 29)) (.ref (ad 30)) (.ref (ad 31)) (.ref (ad 32)) (.ref (ad 33)) (.int (nI (rs_n zr 3))) (.ref (ad 35)) (.ref (ad 36)) (.ref (ad 37)) (.int (rs_i zr 38)) (nI (rs_n zr 0)) pp (rs_n zr 0) rfl (by omega)) (cwV 1 hts gX11_about_X11_noPitch rfl rfl rfl (by decide +kernel) ⟨Nat.le_of_ble_eq_true rfl, Nat.le_of_ble_eq_true rfl⟩) (pw_preV (va_recv hKc hPc (ci := 11) (q0 := 0) rfl rfl) hPc hKc hDc hN) rfl rfl hl.1 rfl (lv_room (Nat.le_of_ble_eq_true rfl)) dX11_about_2 ⟨Nat.le_of_ble_eq_true rfl, Nat.le_of_ble_eq_true rfl⟩)) (fun r1 hr1 => ?_)
  have hr1 : (r1 = 1 ∧ ∀ j, j < (rs_n zr 0) → pp ≠ nI j) ∨ (r1 = 0 ∧ ∃ j, j < (rs_n zr 0) ∧ pp = nI j) := hr1
  rcases hr1 with ⟨er1, hnojp⟩ | ⟨er1, jp, hjp, egjp⟩
  · subst er1
    refine lv_if_eq (tgt := 10) hx hb dX11_about_5 (by decide) (fun c2 => ?_) (fun c2 => ?_)
    · exact absurd c2 (by decide)
    · skip
      refine lv_iconst (v := (-1)) hx hb dX11_about_8 (by decide) ?_
      subst hQ
      exact W.iret (v := (-1)) hx hb hr (fun t ht hW => ⟨⟨(-1), zr, rfl, ⟨hI, (Or.inl ⟨hnojp, rfl, rfl⟩)⟩, (by rw [ht]; exact hP0), va_K.moved hW.alike hK, hD0⟩, (by rw [ht]; exact Nat.le_refl _), fun q _ _ => by rw [ht]⟩) (fun q h => absurd h List.not_mem_nil) dX11_about_9
  · subst er1
    subst egjp
    refine lv_if_eq (tgt := 10) hx hb dX11_about_5 (by decide) (fun c3 => ?_) (fun c3 => ?_)
    · skip
      refine lv_iload_n hx hb dX11_about_10 rfl (lv_at hl 2 rfl) ?_
      by_cases hw4 : wh = 0
      · subst hw4
        refine lv_tableIn (off := 41) (tgt := 52) hx hb dX11_about_11 (by decide) (by decide) rfl (by decide) ?_
        refine lv_aload_n hx hb dX11_about_52 rfl (lv_at hl 0 rfl) ?_
        refine va_get (D := (dC, dI)) (ci := 11) (v := .ref (ad 12)) (C := RX11) (T := TX11) (N := 39) hx hb hts hiX11 hown hK hP 0 rfl rfl 12 (by decide) (hts (.fieldLink RX11 34 "TributePitchesModel" "fromX" "[I") (List.mem_of_getElem? (i := 1) rfl)) (fun _ h9 => h9) rfl dX11_about_53 ?_
        refine lv_iload_n hx hb dX11_about_56 rfl (lv_at hl 1 rfl) ?_
        refine va_iald hx hb hK hP 9 0 rfl rfl (vp_in_nI (by omega) (by omega)) dX11_about_57 ?_
        refine lv_topi (fun v5 ev5 => ?_)
        have ev5 : v5 = (rs_I zr 12) jp := by rw [ev5]; rw [nI_clamp (by omega)]
        subst ev5
        subst hQ
        exact W.iret (v := (rs_I zr 12) jp) hx hb hr (fun t ht hW => ⟨⟨(rs_I zr 12) jp, zr, rfl, ⟨hI, (Or.inr (Or.inl ⟨jp, rfl, hjp, rfl, rfl, rfl⟩))⟩, (by rw [ht]; exact hP0), va_K.moved hW.alike hK, hD0⟩, (by rw [ht]; exact Nat.le_refl _), fun q _ _ => by rw [ht]⟩) (fun q h => absurd h List.not_mem_nil) dX11_about_58
      by_cases hw6 : wh = 1
      · subst hw6
        refine lv_tableIn (off := 48) (tgt := 59) hx hb dX11_about_11 (by decide) (by decide) rfl (by decide) ?_
        refine lv_aload_n hx hb dX11_about_59 rfl (lv_at hl 0 rfl) ?_
        refine va_get (D := (dC, dI)) (ci := 11) (v := .ref (ad 13)) (C := RX11) (T := TX11) (N := 39) hx hb hts hiX11 hown hK hP 0 rfl rfl 13 (by decide) (hts (.fieldLink RX11 37 "TributePitchesModel" "fromY" "[I") (List.mem_of_getElem? (i := 2) rfl)) (fun _ h9 => h9) rfl dX11_about_60 ?_
        refine lv_iload_n hx hb dX11_about_63 rfl (lv_at hl 1 rfl) ?_
        refine va_iald hx hb hK hP 10 0 rfl rfl (vp_in_nI (by omega) (by omega)) dX11_about_64 ?_
        refine lv_topi (fun v7 ev7 => ?_)
        have ev7 : v7 = (rs_I zr 13) jp := by rw [ev7]; rw [nI_clamp (by omega)]
        subst ev7
        subst hQ
        exact W.iret (v := (rs_I zr 13) jp) hx hb hr (fun t ht hW => ⟨⟨(rs_I zr 13) jp, zr, rfl, ⟨hI, (Or.inr (Or.inr (Or.inl ⟨jp, rfl, hjp, rfl, rfl, rfl⟩)))⟩, (by rw [ht]; exact hP0), va_K.moved hW.alike hK, hD0⟩, (by rw [ht]; exact Nat.le_refl _), fun q _ _ => by rw [ht]⟩) (fun q h => absurd h List.not_mem_nil) dX11_about_65
      by_cases hw8 : wh = 2
      · subst hw8
        refine lv_tableIn (off := 55) (tgt := 66) hx hb dX11_about_11 (by decide) (by decide) rfl (by decide) ?_
        refine lv_aload_n hx hb dX11_about_66 rfl (lv_at hl 0 rfl) ?_
        refine va_get (D := (dC, dI)) (ci := 11) (v := .ref (ad 14)) (C := RX11) (T := TX11) (N := 39) hx hb hts hiX11 hown hK hP 0 rfl rfl 14 (by decide) (hts (.fieldLink RX11 40 "TributePitchesModel" "toX" "[I") (List.mem_of_getElem? (i := 3) rfl)) (fun _ h9 => h9) rfl dX11_about_67 ?_
        refine lv_iload_n hx hb dX11_about_70 rfl (lv_at hl 1 rfl) ?_
        refine va_iald hx hb hK hP 11 0 rfl rfl (vp_in_nI (by omega) (by omega)) dX11_about_71 ?_
        refine lv_topi (fun v9 ev9 => ?_)
        have ev9 : v9 = (rs_I zr 14) jp := by rw [ev9]; rw [nI_clamp (by omega)]
        subst ev9
        subst hQ
        exact W.iret (v := (rs_I zr 14) jp) hx hb hr (fun t ht hW => ⟨⟨(rs_I zr 14) jp, zr, rfl, ⟨hI, (Or.inr (Or.inr (Or.inr (Or.inl ⟨jp, rfl, hjp, rfl, rfl, rfl⟩))))⟩, (by rw [ht]; exact hP0), va_K.moved hW.alike hK, hD0⟩, (by rw [ht]; exact Nat.le_refl _), fun q _ _ => by rw [ht]⟩) (fun q h => absurd h List.not_mem_nil) dX11_about_72
      by_cases hw10 : wh = 3
      · subst hw10
        refine lv_tableIn (off := 62) (tgt := 73) hx hb dX11_about_11 (by decide) (by decide) rfl (by decide) ?_
        refine lv_aload_n hx hb dX11_about_73 rfl (lv_at hl 0 rfl) ?_
        refine va_get (D := (dC, dI)) (ci := 11) (v := .ref (ad 15)) (C := RX11) (T := TX11) (N := 39) hx hb hts hiX11 hown hK hP 0 rfl rfl 15 (by decide) (hts (.fieldLink RX11 43 "TributePitchesModel" "toY" "[I") (List.mem_of_getElem? (i := 4) rfl)) (fun _ h9 => h9) rfl dX11_about_74 ?_
        refine lv_iload_n hx hb dX11_about_77 rfl (lv_at hl 1 rfl) ?_
        refine va_iald hx hb hK hP 12 0 rfl rfl (vp_in_nI (by omega) (by omega)) dX11_about_78 ?_
        refine lv_topi (fun v11 ev11 => ?_)
        have ev11 : v11 = (rs_I zr 15) jp := by rw [ev11]; rw [nI_clamp (by omega)]
        subst ev11
        subst hQ
        exact W.iret (v := (rs_I zr 15) jp) hx hb hr (fun t ht hW => ⟨⟨(rs_I zr 15) jp, zr, rfl, ⟨hI, (Or.inr (Or.inr (Or.inr (Or.inr (Or.inl ⟨jp, rfl, hjp, rfl, rfl, rfl⟩)))))⟩, (by rw [ht]; exact hP0), va_K.moved hW.alike hK, hD0⟩, (by rw [ht]; exact Nat.le_refl _), fun q _ _ => by rw [ht]⟩) (fun q h => absurd h List.not_mem_nil) dX11_about_79
      by_cases hw12 : wh = 4
      · subst hw12
        refine lv_tableIn (off := 69) (tgt := 80) hx hb dX11_about_11 (by decide) (by decide) rfl (by decide) ?_
        refine lv_aload_n hx hb dX11_about_80 rfl (lv_at hl 0 rfl) ?_
        refine va_get (D := (dC, dI)) (ci := 11) (v := .ref (ad 16)) (C := RX11) (T := TX11) (N := 39) hx hb hts hiX11 hown hK hP 0 rfl rfl 16 (by decide) (hts (.fieldLink RX11 46 "TributePitchesModel" "tonsOf" "[I") (List.mem_of_getElem? (i := 5) rfl)) (fun _ h9 => h9) rfl dX11_about_81 ?_
        refine lv_iload_n hx hb dX11_about_84 rfl (lv_at hl 1 rfl) ?_
        refine va_iald hx hb hK hP 13 0 rfl rfl (vp_in_nI (by omega) (by omega)) dX11_about_85 ?_
        refine lv_topi (fun v13 ev13 => ?_)
        have ev13 : v13 = (rs_I zr 16) jp := by rw [ev13]; rw [nI_clamp (by omega)]
        subst ev13
        subst hQ
        exact W.iret (v := (rs_I zr 16) jp) hx hb hr (fun t ht hW => ⟨⟨(rs_I zr 16) jp, zr, rfl, ⟨hI, (Or.inr (Or.inr (Or.inr (Or.inr (Or.inr (Or.inl ⟨jp, rfl, hjp, rfl, rfl, rfl⟩))))))⟩, (by rw [ht]; exact hP0), va_K.moved hW.alike hK, hD0⟩, (by rw [ht]; exact Nat.le_refl _), fun q _ _ => by rw [ht]⟩) (fun q h => absurd h List.not_mem_nil) dX11_about_86
      by_cases hw14 : wh = 5
      · subst hw14
        refine lv_tableIn (off := 76) (tgt := 87) hx hb dX11_about_11 (by decide) (by decide) rfl (by decide) ?_
        refine lv_aload_n hx hb dX11_about_87 rfl (lv_at hl 0 rfl) ?_
        refine lv_iload_n hx hb dX11_about_88 rfl (lv_at hl 1 rfl) ?_
        have hPc := hP.sub (ws' := [rcO qm ad zr, rcI cI ad zr 26 40, rcI cZ ad zr 28 40]) [0, 17, 19] rfl
        have hDc := hD.sub (ws' := [rcO qm ad zr, rcI cI ad zr 26 40, rcI cZ ad zr 28 40]) [0, 17, 19] (by decide) rfl
        have hKc := hK.sub (tys' := [(cI, .int), (cZ, .boolean)]) [0, 2] rfl
        refine vp_callSi (va_Run.run (va_runV (As := [.int (nI jp)]) (rest := []) ⟨hx, hb, hml, hown, hts⟩ (r_X11_takeOf l dC dI cI cZ _ qm (.int (rs_i zr 0)) (.int (rs_i zr 1)) (.ref (ad 2)) (.ref (ad 3)) (.ref (ad 4)) (.ref (ad 5)) (.int (rs_i zr 6)) (.ref (ad 7)) (.ref (ad 8)) (.ref (ad 9)) (.ref (ad 10)) (.int (nI (rs_n zr 0))) (.ref (ad 12)) (.ref (ad 13)) (.ref (ad 14)) (.ref (ad 15)) (.ref (ad 16)) (.int (nI (rs_n zr 1))) (.ref (ad 18)) (.ref (ad 19)) (.int (rs_i zr 20)) (.int (rs_i zr 21)) (.int (rs_i zr 22)) (.int (rs_i zr 23)) (.ref (ad 25)) (.ref (ad 27)) (.ref (ad 29)) (.ref (ad 30)) (.ref (ad 31)) (.ref (ad 32)) (.ref (ad 33)) (.int (nI (rs_n zr 3))) (.ref (ad 35)) (.ref (ad 36)) (.ref (ad 37)) (.int (rs_i zr 38)) (ad 26) (ad 28) (rs_I zr 28) (nI (rs_n zr 2)) (nI jp) (rs_n zr 2) (rs_I zr 26) rfl (by omega)) (cwV 1 hts gX11_about_X11_takeOf rfl rfl rfl (by decide +kernel) ⟨Nat.le_of_ble_eq_true rfl, Nat.le_of_ble_eq_true rfl⟩) (pw_preV (va_recv hKc hPc (ci := 11) (q0 := 0) rfl rfl) hPc hKc hDc hN) rfl rfl hl.1 rfl (lv_room (Nat.le_of_ble_eq_true rfl)) dX11_about_89 ⟨Nat.le_of_ble_eq_true rfl, Nat.le_of_ble_eq_true rfl⟩)) (fun r15 hr15 => ?_)
        have hr15 : (r15 = -9 ∧ ∀ u, u < (rs_n zr 2) → ¬ ((rs_I zr 26) u = (nI jp) ∧ (rs_I zr 28) u = 0)) ∨ (∃ u, u < (rs_n zr 2) ∧ r15 = nI u ∧ ((rs_I zr 26) u = (nI jp) ∧ (rs_I zr 28) u = 0) ∧ ∀ v, v < u → ¬ ((rs_I zr 26) v = (nI jp) ∧ (rs_I zr 28) v = 0)) := hr15
        subst hQ
        exact W.iret (v := r15) hx hb hr (fun t ht hW => ⟨⟨r15, zr, rfl, ⟨hI, (Or.inr (Or.inr (Or.inr (Or.inr (Or.inr (Or.inr (Or.inl ⟨jp, rfl, hjp, rfl, r15, hr15, rfl, rfl⟩)))))))⟩, (by rw [ht]; exact hP0), va_K.moved hW.alike hK, hD0⟩, (by rw [ht]; exact Nat.le_refl _), fun q _ _ => by rw [ht]⟩) (fun q h => absurd h List.not_mem_nil) dX11_about_92
      by_cases hw16 : wh = 6
      · subst hw16
        refine lv_tableIn (off := 82) (tgt := 93) hx hb dX11_about_11 (by decide) (by decide) rfl (by decide) ?_
        refine lv_aload_n hx hb dX11_about_93 rfl (lv_at hl 0 rfl) ?_
        refine lv_iload_n hx hb dX11_about_94 rfl (lv_at hl 1 rfl) ?_
        have hPc := hP.sub (ws' := [rcO qm ad zr, rcI cI ad zr 26 40]) [0, 17] rfl
        have hDc := hD.sub (ws' := [rcO qm ad zr, rcI cI ad zr 26 40]) [0, 17] (by decide) rfl
        have hKc := hK.sub (tys' := [(cI, .int)]) [0] rfl
        refine vp_callSi (va_Run.run (va_runV (As := [.int (nI jp)]) (rest := []) ⟨hx, hb, hml, hown, hts⟩ (r_X11_takesOn l dC dI cI _ qm (.int (rs_i zr 0)) (.int (rs_i zr 1)) (.ref (ad 2)) (.ref (ad 3)) (.ref (ad 4)) (.ref (ad 5)) (.int (rs_i zr 6)) (.ref (ad 7)) (.ref (ad 8)) (.ref (ad 9)) (.ref (ad 10)) (.int (nI (rs_n zr 0))) (.ref (ad 12)) (.ref (ad 13)) (.ref (ad 14)) (.ref (ad 15)) (.ref (ad 16)) (.int (nI (rs_n zr 1))) (.ref (ad 18)) (.ref (ad 19)) (.int (rs_i zr 20)) (.int (rs_i zr 21)) (.int (rs_i zr 22)) (.int (rs_i zr 23)) (.ref (ad 25)) (.ref (ad 27)) (.ref (ad 28)) (.ref (ad 29)) (.ref (ad 30)) (.ref (ad 31)) (.ref (ad 32)) (.ref (ad 33)) (.int (nI (rs_n zr 3))) (.ref (ad 35)) (.ref (ad 36)) (.ref (ad 37)) (.int (rs_i zr 38)) (ad 26) (nI (rs_n zr 2)) (nI jp) (rs_n zr 2) (rs_I zr 26) rfl (by omega)) (cwV 1 hts gX11_about_X11_takesOn rfl rfl rfl (by decide +kernel) ⟨Nat.le_of_ble_eq_true rfl, Nat.le_of_ble_eq_true rfl⟩) (pw_preV (va_recv hKc hPc (ci := 11) (q0 := 0) rfl rfl) hPc hKc hDc hN) rfl rfl hl.1 rfl (lv_room (Nat.le_of_ble_eq_true rfl)) dX11_about_95 ⟨Nat.le_of_ble_eq_true rfl, Nat.le_of_ble_eq_true rfl⟩)) (fun r17 hr17 => ?_)
        have hr17 : r17 = nI (fa_cnt (fun t => decide ((rs_I zr 26) t = (nI jp))) (rs_n zr 2)) := hr17
        have hr17 := hr17.symm
        subst hr17
        refine W.eq (g2 := F0 m 98 ls [.int (nI (fa_cnt (fun t => decide ((rs_I zr 26) t = (nI jp))) (rs_n zr 2)))]) rfl ?_
        subst hQ
        exact W.iret (v := nI (fa_cnt (fun t => decide ((rs_I zr 26) t = (nI jp))) (rs_n zr 2))) hx hb hr (fun t ht hW => ⟨⟨nI (fa_cnt (fun t => decide ((rs_I zr 26) t = (nI jp))) (rs_n zr 2)), zr, rfl, ⟨hI, (Or.inr (Or.inr (Or.inr (Or.inr (Or.inr (Or.inr (Or.inr (Or.inl ⟨jp, rfl, hjp, rfl, rfl, rfl⟩))))))))⟩, (by rw [ht]; exact hP0), va_K.moved hW.alike hK, hD0⟩, (by rw [ht]; exact Nat.le_refl _), fun q _ _ => by rw [ht]⟩) (fun q h => absurd h List.not_mem_nil) dX11_about_98
      refine lv_tableOut (tgt := 99) hx hb dX11_about_11 (tb_out7 hw4 hw6 hw8 hw10 hw12 hw14 hw16) (by decide) ?_
      refine lv_bipush (v := (-2)) hx hb dX11_about_99 (by decide) ?_
      subst hQ
      exact W.iret (v := (-2)) hx hb hr (fun t ht hW => ⟨⟨(-2), zr, rfl, ⟨hI, (Or.inr (Or.inr (Or.inr (Or.inr (Or.inr (Or.inr (Or.inr (Or.inr ⟨jp, rfl, hjp, hw4, hw6, hw8, hw10, hw12, hw14, hw16, rfl, rfl⟩))))))))⟩, (by rw [ht]; exact hP0), va_K.moved hW.alike hK, hD0⟩, (by rw [ht]; exact Nat.le_refl _), fun q _ _ => by rw [ht]⟩) (fun q h => absurd h List.not_mem_nil) dX11_about_101
    · exact absurd c3 (by decide)
def pR_bid (zr : RS2) (g : Int32) (sv : Int32) (r : Int32) (u : RS2) : Prop :=
  ((∀ j, j < rs_n zr 1 → g ≠ nI j) ∧ r = ((-1)) ∧ u = zr) ∨
  (∃ jg : Nat, g = nI jg ∧ (jg < rs_n zr 1) ∧ (0 ≤ (rs_i zr 20)) ∧ (¬ (rs_i zr 22) = 0) ∧ (1 ≤ sv.toInt64 ∧ sv.toInt64 ≤ (((rs_i zr 21).toInt64) - 1)) ∧ ((rs_i zr 23) = (nI jg)) ∧ r = ((-3)) ∧ u = zr) ∨
  (∃ jg : Nat, g = nI jg ∧ (jg < rs_n zr 1) ∧ (0 ≤ (rs_i zr 20)) ∧ (¬ (rs_i zr 22) = 0) ∧ (1 ≤ sv.toInt64 ∧ sv.toInt64 ≤ (((rs_i zr 21).toInt64) - 1)) ∧ (¬ (rs_i zr 23) = (nI jg)) ∧ ((nI (fa_cnt (fun t => decide ((rs_I zr 25) t = (nI jg) ∧ (rs_I zr 28) t = 0)) (rs_n zr 2))) < 3) ∧ (¬ (rs_i zr 22) = 20) ∧ r = ((rs_i zr 22) + 1) ∧ u = (va_up (va_up (va_up (rs_i zr) 21 sv) 22 ((rs_i zr 22) + 1)) 23 (nI jg), rs_n zr, rs_I zr, rs_L zr)) ∨
  (∃ jg : Nat, g = nI jg ∧ (jg < rs_n zr 1) ∧ (0 ≤ (rs_i zr 20)) ∧ (¬ (rs_i zr 22) = 0) ∧ (1 ≤ sv.toInt64 ∧ sv.toInt64 ≤ (((rs_i zr 21).toInt64) - 1)) ∧ (¬ (rs_i zr 23) = (nI jg)) ∧ ((nI (fa_cnt (fun t => decide ((rs_I zr 25) t = (nI jg) ∧ (rs_I zr 28) t = 0)) (rs_n zr 2))) < 3) ∧ ((rs_i zr 22) = 20) ∧ r = ((-4)) ∧ u = zr) ∨
  (∃ jg : Nat, g = nI jg ∧ (jg < rs_n zr 1) ∧ (0 ≤ (rs_i zr 20)) ∧ (¬ (rs_i zr 22) = 0) ∧ (1 ≤ sv.toInt64 ∧ sv.toInt64 ≤ (((rs_i zr 21).toInt64) - 1)) ∧ (¬ (rs_i zr 23) = (nI jg)) ∧ (¬ (nI (fa_cnt (fun t => decide ((rs_I zr 25) t = (nI jg) ∧ (rs_I zr 28) t = 0)) (rs_n zr 2))) < 3) ∧ r = ((-3)) ∧ u = zr) ∨
  (∃ jg : Nat, g = nI jg ∧ (jg < rs_n zr 1) ∧ (0 ≤ (rs_i zr 20)) ∧ (¬ (rs_i zr 22) = 0) ∧ (¬ (1 ≤ sv.toInt64 ∧ sv.toInt64 ≤ (((rs_i zr 21).toInt64) - 1))) ∧ r = ((-2)) ∧ u = zr) ∨
  (∃ jg : Nat, g = nI jg ∧ (jg < rs_n zr 1) ∧ (0 ≤ (rs_i zr 20)) ∧ ((rs_i zr 22) = 0) ∧ (1 ≤ sv.toInt64 ∧ sv.toInt64 ≤ ((rs_i zr 21).toInt64)) ∧ ((rs_i zr 23) = (nI jg)) ∧ r = ((-3)) ∧ u = zr) ∨
  (∃ jg : Nat, g = nI jg ∧ (jg < rs_n zr 1) ∧ (0 ≤ (rs_i zr 20)) ∧ ((rs_i zr 22) = 0) ∧ (1 ≤ sv.toInt64 ∧ sv.toInt64 ≤ ((rs_i zr 21).toInt64)) ∧ (¬ (rs_i zr 23) = (nI jg)) ∧ ((nI (fa_cnt (fun t => decide ((rs_I zr 25) t = (nI jg) ∧ (rs_I zr 28) t = 0)) (rs_n zr 2))) < 3) ∧ (¬ (rs_i zr 22) = 20) ∧ r = ((rs_i zr 22) + 1) ∧ u = (va_up (va_up (va_up (rs_i zr) 21 sv) 22 ((rs_i zr 22) + 1)) 23 (nI jg), rs_n zr, rs_I zr, rs_L zr)) ∨
  (∃ jg : Nat, g = nI jg ∧ (jg < rs_n zr 1) ∧ (0 ≤ (rs_i zr 20)) ∧ ((rs_i zr 22) = 0) ∧ (1 ≤ sv.toInt64 ∧ sv.toInt64 ≤ ((rs_i zr 21).toInt64)) ∧ (¬ (rs_i zr 23) = (nI jg)) ∧ ((nI (fa_cnt (fun t => decide ((rs_I zr 25) t = (nI jg) ∧ (rs_I zr 28) t = 0)) (rs_n zr 2))) < 3) ∧ ((rs_i zr 22) = 20) ∧ r = ((-4)) ∧ u = zr) ∨
  (∃ jg : Nat, g = nI jg ∧ (jg < rs_n zr 1) ∧ (0 ≤ (rs_i zr 20)) ∧ ((rs_i zr 22) = 0) ∧ (1 ≤ sv.toInt64 ∧ sv.toInt64 ≤ ((rs_i zr 21).toInt64)) ∧ (¬ (rs_i zr 23) = (nI jg)) ∧ (¬ (nI (fa_cnt (fun t => decide ((rs_I zr 25) t = (nI jg) ∧ (rs_I zr 28) t = 0)) (rs_n zr 2))) < 3) ∧ r = ((-3)) ∧ u = zr) ∨
  (∃ jg : Nat, g = nI jg ∧ (jg < rs_n zr 1) ∧ (0 ≤ (rs_i zr 20)) ∧ ((rs_i zr 22) = 0) ∧ (¬ (1 ≤ sv.toInt64 ∧ sv.toInt64 ≤ ((rs_i zr 21).toInt64))) ∧ r = ((-2)) ∧ u = zr) ∨
  (∃ jg : Nat, g = nI jg ∧ (jg < rs_n zr 1) ∧ (¬ 0 ≤ (rs_i zr 20)) ∧ r = ((-3)) ∧ u = zr)
set_option maxHeartbeats 4000000 in
theorem lr_bid_2 (qm : Nat) (cI cJ cZ : ClassId) (ad : Nat → Nat) (zr : RS2) (sv : Int32) (jg : Nat) (hjg : jg < rs_n zr 1) (c4 : 0 ≤ (rs_i zr 20)) (c5 : ¬ (rs_i zr 22) = 0) (c7 : 1 ≤ sv.toInt64 ∧ sv.toInt64 ≤ (((rs_i zr 21).toInt64) - 1)) (c8 : ¬ (rs_i zr 23) = (nI jg)) (c10 : (nI (fa_cnt (fun t => decide ((rs_I zr 25) t = (nI jg) ∧ (rs_I zr 28) t = 0)) (rs_n zr 2))) < 3) (c11 : ¬ (rs_i zr 22) = 20) (hI : invR zr) : invR (va_up (va_up (va_up (rs_i zr) 21 sv) 22 ((rs_i zr 22) + 1)) 23 (nI jg), rs_n zr, rs_I zr, rs_L zr) ∧ rW qm cI cJ cZ ad (va_up (va_up (va_up (rs_i zr) 21 sv) 22 ((rs_i zr 22) + 1)) 23 (nI jg), rs_n zr, rs_I zr, rs_L zr) = [(qm, .inr (11, [.int (rs_i zr 0), .int (rs_i zr 1), .ref (ad 2), .ref (ad 3), .ref (ad 4), .ref (ad 5), .int (rs_i zr 6), .ref (ad 7), .ref (ad 8), .ref (ad 9), .ref (ad 10), .int (nI (rs_n zr 0)), .ref (ad 12), .ref (ad 13), .ref (ad 14), .ref (ad 15), .ref (ad 16), .int (nI (rs_n zr 1)), .ref (ad 18), .ref (ad 19), .int (rs_i zr 20), .int sv, .int ((rs_i zr 22) + 1), .int (nI jg), .int (nI (rs_n zr 2)), .ref (ad 25), .ref (ad 26), .ref (ad 27), .ref (ad 28), .ref (ad 29), .ref (ad 30), .ref (ad 31), .ref (ad 32), .ref (ad 33), .int (nI (rs_n zr 3)), .ref (ad 35), .ref (ad 36), .ref (ad 37), .int (rs_i zr 38)])), rcI cI ad zr 2 48, rcI cI ad zr 3 48, rcI cI ad zr 4 48, rcI cI ad zr 5 48, rcI cI ad zr 7 4, rcI cI ad zr 8 4, rcI cI ad zr 9 192, rcI cI ad zr 10 48, rcI cI ad zr 12 12, rcI cI ad zr 13 12, rcI cI ad zr 14 12, rcI cI ad zr 15 12, rcI cI ad zr 16 12, rcI cI ad zr 18 8, rcJ cJ ad zr 19 8, rcI cI ad zr 25 40, rcI cI ad zr 26 40, rcI cI ad zr 27 40, rcI cZ ad zr 28 40, rcJ cJ ad zr 29 40, rcJ cJ ad zr 30 40, rcJ cJ ad zr 31 40, rcJ cJ ad zr 32 40, rcJ cJ ad zr 33 40, rcI cI ad zr 35 80, rcI cI ad zr 36 80, rcI cI ad zr 37 80] := by
  obtain ⟨⟨hn0, hn1, hn2, hn3⟩, hfar, hlh, hss, hsold, htk, hpk⟩ := id hI
  exact ⟨(by refine ⟨⟨hn0, hn1, hn2, hn3⟩, hfar, hlh, hss, (hsold.imp id (fun q => ⟨q.1, Or.inr ⟨jg, hjg, rfl⟩⟩)), htk, hpk⟩), by simp [rW, rcO, rcI, rcJ, rs_i, rs_n, rs_I, rs_L, va_up, upd]⟩
set_option maxHeartbeats 4000000 in
theorem lr_bid_7 (qm : Nat) (cI cJ cZ : ClassId) (ad : Nat → Nat) (zr : RS2) (sv : Int32) (jg : Nat) (hjg : jg < rs_n zr 1) (c4 : 0 ≤ (rs_i zr 20)) (c5 : (rs_i zr 22) = 0) (c13 : 1 ≤ sv.toInt64 ∧ sv.toInt64 ≤ ((rs_i zr 21).toInt64)) (c14 : ¬ (rs_i zr 23) = (nI jg)) (c16 : (nI (fa_cnt (fun t => decide ((rs_I zr 25) t = (nI jg) ∧ (rs_I zr 28) t = 0)) (rs_n zr 2))) < 3) (c17 : ¬ (rs_i zr 22) = 20) (hI : invR zr) : invR (va_up (va_up (va_up (rs_i zr) 21 sv) 22 ((rs_i zr 22) + 1)) 23 (nI jg), rs_n zr, rs_I zr, rs_L zr) ∧ rW qm cI cJ cZ ad (va_up (va_up (va_up (rs_i zr) 21 sv) 22 ((rs_i zr 22) + 1)) 23 (nI jg), rs_n zr, rs_I zr, rs_L zr) = [(qm, .inr (11, [.int (rs_i zr 0), .int (rs_i zr 1), .ref (ad 2), .ref (ad 3), .ref (ad 4), .ref (ad 5), .int (rs_i zr 6), .ref (ad 7), .ref (ad 8), .ref (ad 9), .ref (ad 10), .int (nI (rs_n zr 0)), .ref (ad 12), .ref (ad 13), .ref (ad 14), .ref (ad 15), .ref (ad 16), .int (nI (rs_n zr 1)), .ref (ad 18), .ref (ad 19), .int (rs_i zr 20), .int sv, .int ((rs_i zr 22) + 1), .int (nI jg), .int (nI (rs_n zr 2)), .ref (ad 25), .ref (ad 26), .ref (ad 27), .ref (ad 28), .ref (ad 29), .ref (ad 30), .ref (ad 31), .ref (ad 32), .ref (ad 33), .int (nI (rs_n zr 3)), .ref (ad 35), .ref (ad 36), .ref (ad 37), .int (rs_i zr 38)])), rcI cI ad zr 2 48, rcI cI ad zr 3 48, rcI cI ad zr 4 48, rcI cI ad zr 5 48, rcI cI ad zr 7 4, rcI cI ad zr 8 4, rcI cI ad zr 9 192, rcI cI ad zr 10 48, rcI cI ad zr 12 12, rcI cI ad zr 13 12, rcI cI ad zr 14 12, rcI cI ad zr 15 12, rcI cI ad zr 16 12, rcI cI ad zr 18 8, rcJ cJ ad zr 19 8, rcI cI ad zr 25 40, rcI cI ad zr 26 40, rcI cI ad zr 27 40, rcI cZ ad zr 28 40, rcJ cJ ad zr 29 40, rcJ cJ ad zr 30 40, rcJ cJ ad zr 31 40, rcJ cJ ad zr 32 40, rcJ cJ ad zr 33 40, rcI cI ad zr 35 80, rcI cI ad zr 36 80, rcI cI ad zr 37 80] := by
  obtain ⟨⟨hn0, hn1, hn2, hn3⟩, hfar, hlh, hss, hsold, htk, hpk⟩ := id hI
  exact ⟨(by refine ⟨⟨hn0, hn1, hn2, hn3⟩, hfar, hlh, hss, (hsold.imp id (fun q => ⟨q.1, Or.inr ⟨jg, hjg, rfl⟩⟩)), htk, hpk⟩), by simp [rW, rcO, rcI, rcJ, rs_i, rs_n, rs_I, rs_L, va_up, upd]⟩
set_option maxHeartbeats 4000000 in
set_option maxRecDepth 100000 in
theorem M_bid (l : Launch) (dC : Nat → ClassId) (dI : Nat → Nat → Nat) (cI cJ cZ : ClassId) (sz : Nat) (qm : Nat) (ad : Nat → Nat) (zr : RS2) (g : Int32) (sv : Int32) (hI : invR zr) : Met l yX11_bid wsX11_bid ({ frames := 3, cells := 0, slots := 0, locals := 90 }) (pw (dC, dI) [(cI, .int), (cJ, .long), (cZ, .boolean)] (rW qm cI cJ cZ ad zr) sz [.ref qm, .int g, .int sv]) (va_Qi (fun r (u : RS2) => invR u ∧ pR_bid zr g sv r u) (fun u t => bw (dC, dI) [(cI, .int), (cJ, .long), (cZ, .boolean)] (va_A (rW qm cI cJ cZ ad zr) sz) (rW qm cI cJ cZ ad u) t) (va_A (rW qm cI cJ cZ ad zr) sz)) 0 0 (va_A (rW qm cI cJ cZ ad zr) sz) := by
  refine pw_met (cc := cX11_bid) (maxL := 3) (ret := (some .int)) (by decide) rfl (Nat.le_of_ble_eq_true rfl) ?_
  intro p e s m below meth c0 hx hb hr hml hown hlocks hnm hts hP0 hK hD0 hN hsz hA hS ls hl
  subst hsz
  have hP : va_P (dC, dI) vwCl [rcO qm ad zr, rcI cI ad zr 2 48, rcI cI ad zr 3 48, rcI cI ad zr 4 48, rcI cI ad zr 5 48, rcI cI ad zr 7 4, rcI cI ad zr 8 4, rcI cI ad zr 9 192, rcI cI ad zr 10 48, rcI cI ad zr 12 12, rcI cI ad zr 13 12, rcI cI ad zr 14 12, rcI cI ad zr 15 12, rcI cI ad zr 16 12, rcI cI ad zr 18 8, rcJ cJ ad zr 19 8, rcI cI ad zr 25 40, rcI cI ad zr 26 40, rcI cI ad zr 27 40, rcI cZ ad zr 28 40, rcJ cJ ad zr 29 40, rcJ cJ ad zr 30 40, rcJ cJ ad zr 31 40, rcJ cJ ad zr 32 40, rcJ cJ ad zr 33 40, rcI cI ad zr 35 80, rcI cI ad zr 36 80, rcI cI ad zr 37 80] s.heap := hP0
  have hD : va_D (va_A (rW qm cI cJ cZ ad zr) s.heap.size) [rcO qm ad zr, rcI cI ad zr 2 48, rcI cI ad zr 3 48, rcI cI ad zr 4 48, rcI cI ad zr 5 48, rcI cI ad zr 7 4, rcI cI ad zr 8 4, rcI cI ad zr 9 192, rcI cI ad zr 10 48, rcI cI ad zr 12 12, rcI cI ad zr 13 12, rcI cI ad zr 14 12, rcI cI ad zr 15 12, rcI cI ad zr 16 12, rcI cI ad zr 18 8, rcJ cJ ad zr 19 8, rcI cI ad zr 25 40, rcI cI ad zr 26 40, rcI cI ad zr 27 40, rcI cZ ad zr 28 40, rcJ cJ ad zr 29 40, rcJ cJ ad zr 30 40, rcJ cJ ad zr 31 40, rcJ cJ ad zr 32 40, rcJ cJ ad zr 33 40, rcI cI ad zr 35 80, rcI cI ad zr 36 80, rcI cI ad zr 37 80] := hD0
  obtain ⟨⟨hn0, hn1, hn2, hn3⟩, hfar, hlh, hss, hsold, htk, hpk⟩ := id hI
  have hl : lv_has ls 3 [(0, .ref qm), (1, .int g), (2, .int sv)] := hl
  have hiX11 : ∀ w ∈ wsX110, w ∈ wsX11_bid := fun _ h => List.mem_cons_of_mem _ (List.mem_append_right _ (h))
  generalize hQ : MQ _ _ _ _ _ _ _ = Q
  refine lv_aload_n hx hb dX11_bid_0 rfl (lv_at hl 0 rfl) ?_
  refine lv_iload_n hx hb dX11_bid_1 rfl (lv_at hl 1 rfl) ?_
  have hPc := hP.sub (ws' := [rcO qm ad zr]) [0] rfl
  have hDc := hD.sub (ws' := [rcO qm ad zr]) [0] (by decide) rfl
  have hKc := hK.sub (tys' := []) [] rfl
  refine vp_callSi (va_Run.run (va_runV (As := [.int g]) (rest := []) ⟨hx, hb, hml, hown, hts⟩ (r_X11_noGang l dC dI  _ qm (.int (rs_i zr 0)) (.int (rs_i zr 1)) (.ref (ad 2)) (.ref (ad 3)) (.ref (ad 4)) (.ref (ad 5)) (.int (rs_i zr 6)) (.ref (ad 7)) (.ref (ad 8)) (.ref (ad 9)) (.ref (ad 10)) (.int (nI (rs_n zr 0))) (.ref (ad 12)) (.ref (ad 13)) (.ref (ad 14)) (.ref (ad 15)) (.ref (ad 16)) (.ref (ad 18)) (.ref (ad 19)) (.int (rs_i zr 20)) (.int (rs_i zr 21)) (.int (rs_i zr 22)) (.int (rs_i zr 23)) (.int (nI (rs_n zr 2))) (.ref (ad 25)) (.ref (ad 26)) (.ref (ad 27)) (.ref (ad 28)) (.ref (ad 29)) (.ref (ad 30)) (.ref (ad 31)) (.ref (ad 32)) (.ref (ad 33)) (.int (nI (rs_n zr 3))) (.ref (ad 35)) (.ref (ad 36)) (.ref (ad 37)) (.int (rs_i zr 38)) (nI (rs_n zr 1)) g (rs_n zr 1) rfl (by omega)) (cwV 1 hts gX11_bid_X11_noGang rfl rfl rfl (by decide +kernel) ⟨Nat.le_of_ble_eq_true rfl, Nat.le_of_ble_eq_true rfl⟩) (pw_preV (va_recv hKc hPc (ci := 11) (q0 := 0) rfl rfl) hPc hKc hDc hN) rfl rfl hl.1 rfl (lv_room (Nat.le_of_ble_eq_true rfl)) dX11_bid_2 ⟨Nat.le_of_ble_eq_true rfl, Nat.le_of_ble_eq_true rfl⟩)) (fun r1 hr1 => ?_)
  have hr1 : (r1 = 1 ∧ ∀ j, j < (rs_n zr 1) → g ≠ nI j) ∨ (r1 = 0 ∧ ∃ j, j < (rs_n zr 1) ∧ g = nI j) := hr1
  rcases hr1 with ⟨er1, hnojg⟩ | ⟨er1, jg, hjg, egjg⟩
  · subst er1
    refine lv_if_eq (tgt := 10) hx hb dX11_bid_5 (by decide) (fun c2 => ?_) (fun c2 => ?_)
    · exact absurd c2 (by decide)
    · skip
      refine lv_iconst (v := (-1)) hx hb dX11_bid_8 (by decide) ?_
      subst hQ
      exact W.iret (v := (-1)) hx hb hr (fun t ht hW => ⟨⟨(-1), zr, rfl, ⟨hI, (Or.inl ⟨hnojg, rfl, rfl⟩)⟩, (by rw [ht]; exact hP0), va_K.moved hW.alike hK, hD0⟩, (by rw [ht]; exact Nat.le_refl _), fun q _ _ => by rw [ht]⟩) (fun q h => absurd h List.not_mem_nil) dX11_bid_9
  · subst er1
    subst egjg
    refine lv_if_eq (tgt := 10) hx hb dX11_bid_5 (by decide) (fun c3 => ?_) (fun c3 => ?_)
    · skip
      refine lv_aload_n hx hb dX11_bid_10 rfl (lv_at hl 0 rfl) ?_
      refine va_get (D := (dC, dI)) (ci := 11) (v := .int (rs_i zr 20)) (C := RX11) (T := TX11) (N := 39) hx hb hts hiX11 hown hK hP 0 rfl rfl 20 (by decide) (hts (.fieldLink RX11 97 "TributePitchesModel" "sold" "I") (List.mem_of_getElem? (i := 1) rfl)) (fun _ h9 => h9) rfl dX11_bid_11 ?_
      refine lv_if_ge (tgt := 20) hx hb dX11_bid_14 (by decide) (fun c4 => ?_) (fun c4 => ?_)
      · skip
        refine lv_iload_n hx hb dX11_bid_20 rfl (lv_at hl 2 rfl) ?_
        refine lv_i2l (v := sv.toInt64) hx hb dX11_bid_21 rfl ?_
        refine lv_lconst (v := 1) hx hb dX11_bid_22 (by decide) ?_
        refine lv_aload_n hx hb dX11_bid_23 rfl (lv_at hl 0 rfl) ?_
        refine va_get (D := (dC, dI)) (ci := 11) (v := .int (rs_i zr 22)) (C := RX11) (T := TX11) (N := 39) hx hb hts hiX11 hown hK hP 0 rfl rfl 22 (by decide) (hts (.fieldLink RX11 199 "TributePitchesModel" "bids" "I") (List.mem_of_getElem? (i := 2) rfl)) (fun _ h9 => h9) rfl dX11_bid_24 ?_
        refine lv_if_ne (tgt := 38) hx hb dX11_bid_27 (by decide) (fun c5 => ?_) (fun c5 => ?_)
        · skip
          refine lv_aload_n hx hb dX11_bid_38 rfl (lv_at hl 0 rfl) ?_
          refine va_get (D := (dC, dI)) (ci := 11) (v := .int (rs_i zr 21)) (C := RX11) (T := TX11) (N := 39) hx hb hts hiX11 hown hK hP 0 rfl rfl 21 (by decide) (hts (.fieldLink RX11 196 "TributePitchesModel" "latest" "I") (List.mem_of_getElem? (i := 3) rfl)) (fun _ h9 => h9) rfl dX11_bid_39 ?_
          refine lv_i2l (v := (rs_i zr 21).toInt64) hx hb dX11_bid_42 rfl ?_
          refine lv_lconst (v := 1) hx hb dX11_bid_43 (by decide) ?_
          refine lv_lsub hx hb dX11_bid_44 ?_
          refine vp_callSi (va_Run.run (va_runS (As := [.long sv.toInt64, .long 1, .long (((rs_i zr 21).toInt64) - 1)]) (rest := []) ⟨hx, hb, hml, hown, hts⟩ (c_X11_in l sv.toInt64 1 (((rs_i zr 21).toInt64) - 1) ) (va_cwS 3 hts gX11_bid_X11_in rfl rfl rfl (by decide +kernel) ⟨Nat.le_of_ble_eq_true rfl, Nat.le_of_ble_eq_true rfl⟩) (p0_preS hN) rfl rfl hl.1 rfl (lv_room (Nat.le_of_ble_eq_true rfl)) dX11_bid_45 ⟨Nat.le_of_ble_eq_true rfl, Nat.le_of_ble_eq_true rfl⟩)) (fun r6 hr6 => ?_)
          have hr6 : r6 = if 1 ≤ sv.toInt64 ∧ sv.toInt64 ≤ (((rs_i zr 21).toInt64) - 1) then 1 else 0 := hr6
          refine lv_if_ne (tgt := 54) hx hb dX11_bid_48 (by decide) (fun c7 => ?_) (fun c7 => ?_)
          · skip
            have c7 := (fa_bool_prop hr6).2.mp c7
            refine lv_aload_n hx hb dX11_bid_54 rfl (lv_at hl 0 rfl) ?_
            refine va_get (D := (dC, dI)) (ci := 11) (v := .int (rs_i zr 23)) (C := RX11) (T := TX11) (N := 39) hx hb hts hiX11 hown hK hP 0 rfl rfl 23 (by decide) (hts (.fieldLink RX11 202 "TributePitchesModel" "bidder" "I") (List.mem_of_getElem? (i := 4) rfl)) (fun _ h9 => h9) rfl dX11_bid_55 ?_
            refine lv_iload_n hx hb dX11_bid_58 rfl (lv_at hl 1 rfl) ?_
            refine lv_icmp_eq (tgt := 71) hx hb dX11_bid_59 (by decide) (fun c8 => ?_) (fun c8 => ?_)
            · skip
              refine lv_bipush (v := (-3)) hx hb dX11_bid_71 (by decide) ?_
              subst hQ
              exact W.iret (v := (-3)) hx hb hr (fun t ht hW => ⟨⟨(-3), zr, rfl, ⟨hI, (Or.inr (Or.inl ⟨jg, rfl, hjg, c4, c5, c7, c8, rfl, rfl⟩))⟩, (by rw [ht]; exact hP0), va_K.moved hW.alike hK, hD0⟩, (by rw [ht]; exact Nat.le_refl _), fun q _ _ => by rw [ht]⟩) (fun q h => absurd h List.not_mem_nil) dX11_bid_73
            · skip
              refine lv_aload_n hx hb dX11_bid_62 rfl (lv_at hl 0 rfl) ?_
              refine lv_iload_n hx hb dX11_bid_63 rfl (lv_at hl 1 rfl) ?_
              have hPc := hP.sub (ws' := [rcO qm ad zr, rcI cI ad zr 25 40, rcI cZ ad zr 28 40]) [0, 16, 19] rfl
              have hDc := hD.sub (ws' := [rcO qm ad zr, rcI cI ad zr 25 40, rcI cZ ad zr 28 40]) [0, 16, 19] (by decide) rfl
              have hKc := hK.sub (tys' := [(cI, .int), (cZ, .boolean)]) [0, 2] rfl
              refine vp_callSi (va_Run.run (va_runV (As := [.int (nI jg)]) (rest := []) ⟨hx, hb, hml, hown, hts⟩ (r_X11_letTo l dC dI cI cZ _ qm (.int (rs_i zr 0)) (.int (rs_i zr 1)) (.ref (ad 2)) (.ref (ad 3)) (.ref (ad 4)) (.ref (ad 5)) (.int (rs_i zr 6)) (.ref (ad 7)) (.ref (ad 8)) (.ref (ad 9)) (.ref (ad 10)) (.int (nI (rs_n zr 0))) (.ref (ad 12)) (.ref (ad 13)) (.ref (ad 14)) (.ref (ad 15)) (.ref (ad 16)) (.int (nI (rs_n zr 1))) (.ref (ad 18)) (.ref (ad 19)) (.int (rs_i zr 20)) (.int (rs_i zr 21)) (.int (rs_i zr 22)) (.int (rs_i zr 23)) (.ref (ad 26)) (.ref (ad 27)) (.ref (ad 29)) (.ref (ad 30)) (.ref (ad 31)) (.ref (ad 32)) (.ref (ad 33)) (.int (nI (rs_n zr 3))) (.ref (ad 35)) (.ref (ad 36)) (.ref (ad 37)) (.int (rs_i zr 38)) (ad 25) (ad 28) (rs_I zr 28) (nI (rs_n zr 2)) (nI jg) (rs_n zr 2) (rs_I zr 25) rfl (by omega)) (cwV 1 hts gX11_bid_X11_letTo rfl rfl rfl (by decide +kernel) ⟨Nat.le_of_ble_eq_true rfl, Nat.le_of_ble_eq_true rfl⟩) (pw_preV (va_recv hKc hPc (ci := 11) (q0 := 0) rfl rfl) hPc hKc hDc hN) rfl rfl hl.1 rfl (lv_room (Nat.le_of_ble_eq_true rfl)) dX11_bid_64 ⟨Nat.le_of_ble_eq_true rfl, Nat.le_of_ble_eq_true rfl⟩)) (fun r9 hr9 => ?_)
              have hr9 : r9 = nI (fa_cnt (fun t => decide ((rs_I zr 25) t = (nI jg) ∧ (rs_I zr 28) t = 0)) (rs_n zr 2)) := hr9
              have hr9 := hr9.symm
              subst hr9
              refine W.eq (g2 := F0 m 67 ls [.int (nI (fa_cnt (fun t => decide ((rs_I zr 25) t = (nI jg) ∧ (rs_I zr 28) t = 0)) (rs_n zr 2)))]) rfl ?_
              refine lv_iconst (v := 3) hx hb dX11_bid_67 (by decide) ?_
              refine lv_icmp_lt (tgt := 74) hx hb dX11_bid_68 (by decide) (fun c10 => ?_) (fun c10 => ?_)
              · skip
                refine lv_aload_n hx hb dX11_bid_74 rfl (lv_at hl 0 rfl) ?_
                refine va_get (D := (dC, dI)) (ci := 11) (v := .int (rs_i zr 22)) (C := RX11) (T := TX11) (N := 39) hx hb hts hiX11 hown hK hP 0 rfl rfl 22 (by decide) (hts (.fieldLink RX11 199 "TributePitchesModel" "bids" "I") (List.mem_of_getElem? (i := 2) rfl)) (fun _ h9 => h9) rfl dX11_bid_75 ?_
                refine lv_bipush (v := 20) hx hb dX11_bid_78 (by decide) ?_
                refine lv_icmp_ne (tgt := 86) hx hb dX11_bid_80 (by decide) (fun c11 => ?_) (fun c11 => ?_)
                · skip
                  refine lv_aload_n hx hb dX11_bid_86 rfl (lv_at hl 0 rfl) ?_
                  refine lv_iload_n hx hb dX11_bid_87 rfl (lv_at hl 1 rfl) ?_
                  refine va_put (D := (dC, dI)) (ci := 11) (v := .int (nI jg)) (ty := .int) (C := RX11) (T := TX11) (N := 39) hx hb hts hiX11 tyX11 tyX11_ok nmX11 hown hK hP hD hS 0 rfl rfl 23 (by decide) (hts (.fieldLink RX11 202 "TributePitchesModel" "bidder" "I") (List.mem_of_getElem? (i := 4) rfl)) (fun _ h9 => h9) rfl (by decide +kernel) rfl rfl (Nat.le_of_ble_eq_true rfl) dX11_bid_88 (fun H locs hP hD hS => ?_)
                  have hP : va_P (dC, dI) vwCl [(qm, .inr (11, [.int (rs_i zr 0), .int (rs_i zr 1), .ref (ad 2), .ref (ad 3), .ref (ad 4), .ref (ad 5), .int (rs_i zr 6), .ref (ad 7), .ref (ad 8), .ref (ad 9), .ref (ad 10), .int (nI (rs_n zr 0)), .ref (ad 12), .ref (ad 13), .ref (ad 14), .ref (ad 15), .ref (ad 16), .int (nI (rs_n zr 1)), .ref (ad 18), .ref (ad 19), .int (rs_i zr 20), .int (rs_i zr 21), .int (rs_i zr 22), .int (nI jg), .int (nI (rs_n zr 2)), .ref (ad 25), .ref (ad 26), .ref (ad 27), .ref (ad 28), .ref (ad 29), .ref (ad 30), .ref (ad 31), .ref (ad 32), .ref (ad 33), .int (nI (rs_n zr 3)), .ref (ad 35), .ref (ad 36), .ref (ad 37), .int (rs_i zr 38)])), rcI cI ad zr 2 48, rcI cI ad zr 3 48, rcI cI ad zr 4 48, rcI cI ad zr 5 48, rcI cI ad zr 7 4, rcI cI ad zr 8 4, rcI cI ad zr 9 192, rcI cI ad zr 10 48, rcI cI ad zr 12 12, rcI cI ad zr 13 12, rcI cI ad zr 14 12, rcI cI ad zr 15 12, rcI cI ad zr 16 12, rcI cI ad zr 18 8, rcJ cJ ad zr 19 8, rcI cI ad zr 25 40, rcI cI ad zr 26 40, rcI cI ad zr 27 40, rcI cZ ad zr 28 40, rcJ cJ ad zr 29 40, rcJ cJ ad zr 30 40, rcJ cJ ad zr 31 40, rcJ cJ ad zr 32 40, rcJ cJ ad zr 33 40, rcI cI ad zr 35 80, rcI cI ad zr 36 80, rcI cI ad zr 37 80] H := hP
                  have hD : va_D _ [(qm, .inr (11, [.int (rs_i zr 0), .int (rs_i zr 1), .ref (ad 2), .ref (ad 3), .ref (ad 4), .ref (ad 5), .int (rs_i zr 6), .ref (ad 7), .ref (ad 8), .ref (ad 9), .ref (ad 10), .int (nI (rs_n zr 0)), .ref (ad 12), .ref (ad 13), .ref (ad 14), .ref (ad 15), .ref (ad 16), .int (nI (rs_n zr 1)), .ref (ad 18), .ref (ad 19), .int (rs_i zr 20), .int (rs_i zr 21), .int (rs_i zr 22), .int (nI jg), .int (nI (rs_n zr 2)), .ref (ad 25), .ref (ad 26), .ref (ad 27), .ref (ad 28), .ref (ad 29), .ref (ad 30), .ref (ad 31), .ref (ad 32), .ref (ad 33), .int (nI (rs_n zr 3)), .ref (ad 35), .ref (ad 36), .ref (ad 37), .int (rs_i zr 38)])), rcI cI ad zr 2 48, rcI cI ad zr 3 48, rcI cI ad zr 4 48, rcI cI ad zr 5 48, rcI cI ad zr 7 4, rcI cI ad zr 8 4, rcI cI ad zr 9 192, rcI cI ad zr 10 48, rcI cI ad zr 12 12, rcI cI ad zr 13 12, rcI cI ad zr 14 12, rcI cI ad zr 15 12, rcI cI ad zr 16 12, rcI cI ad zr 18 8, rcJ cJ ad zr 19 8, rcI cI ad zr 25 40, rcI cI ad zr 26 40, rcI cI ad zr 27 40, rcI cZ ad zr 28 40, rcJ cJ ad zr 29 40, rcJ cJ ad zr 30 40, rcJ cJ ad zr 31 40, rcJ cJ ad zr 32 40, rcJ cJ ad zr 33 40, rcI cI ad zr 35 80, rcI cI ad zr 36 80, rcI cI ad zr 37 80] := hD
                  refine lv_aload_n hx hb dX11_bid_91 rfl (lv_at hl 0 rfl) ?_
                  refine lv_iload_n hx hb dX11_bid_92 rfl (lv_at hl 2 rfl) ?_
                  refine va_put (D := (dC, dI)) (ci := 11) (v := .int sv) (ty := .int) (C := RX11) (T := TX11) (N := 39) hx hb hts hiX11 tyX11 tyX11_ok nmX11 hown hK hP hD hS 0 rfl rfl 21 (by decide) (hts (.fieldLink RX11 196 "TributePitchesModel" "latest" "I") (List.mem_of_getElem? (i := 3) rfl)) (fun _ h9 => h9) rfl (by decide +kernel) rfl rfl (Nat.le_of_ble_eq_true rfl) dX11_bid_93 (fun H locs hP hD hS => ?_)
                  have hP : va_P (dC, dI) vwCl [(qm, .inr (11, [.int (rs_i zr 0), .int (rs_i zr 1), .ref (ad 2), .ref (ad 3), .ref (ad 4), .ref (ad 5), .int (rs_i zr 6), .ref (ad 7), .ref (ad 8), .ref (ad 9), .ref (ad 10), .int (nI (rs_n zr 0)), .ref (ad 12), .ref (ad 13), .ref (ad 14), .ref (ad 15), .ref (ad 16), .int (nI (rs_n zr 1)), .ref (ad 18), .ref (ad 19), .int (rs_i zr 20), .int sv, .int (rs_i zr 22), .int (nI jg), .int (nI (rs_n zr 2)), .ref (ad 25), .ref (ad 26), .ref (ad 27), .ref (ad 28), .ref (ad 29), .ref (ad 30), .ref (ad 31), .ref (ad 32), .ref (ad 33), .int (nI (rs_n zr 3)), .ref (ad 35), .ref (ad 36), .ref (ad 37), .int (rs_i zr 38)])), rcI cI ad zr 2 48, rcI cI ad zr 3 48, rcI cI ad zr 4 48, rcI cI ad zr 5 48, rcI cI ad zr 7 4, rcI cI ad zr 8 4, rcI cI ad zr 9 192, rcI cI ad zr 10 48, rcI cI ad zr 12 12, rcI cI ad zr 13 12, rcI cI ad zr 14 12, rcI cI ad zr 15 12, rcI cI ad zr 16 12, rcI cI ad zr 18 8, rcJ cJ ad zr 19 8, rcI cI ad zr 25 40, rcI cI ad zr 26 40, rcI cI ad zr 27 40, rcI cZ ad zr 28 40, rcJ cJ ad zr 29 40, rcJ cJ ad zr 30 40, rcJ cJ ad zr 31 40, rcJ cJ ad zr 32 40, rcJ cJ ad zr 33 40, rcI cI ad zr 35 80, rcI cI ad zr 36 80, rcI cI ad zr 37 80] H := hP
                  have hD : va_D _ [(qm, .inr (11, [.int (rs_i zr 0), .int (rs_i zr 1), .ref (ad 2), .ref (ad 3), .ref (ad 4), .ref (ad 5), .int (rs_i zr 6), .ref (ad 7), .ref (ad 8), .ref (ad 9), .ref (ad 10), .int (nI (rs_n zr 0)), .ref (ad 12), .ref (ad 13), .ref (ad 14), .ref (ad 15), .ref (ad 16), .int (nI (rs_n zr 1)), .ref (ad 18), .ref (ad 19), .int (rs_i zr 20), .int sv, .int (rs_i zr 22), .int (nI jg), .int (nI (rs_n zr 2)), .ref (ad 25), .ref (ad 26), .ref (ad 27), .ref (ad 28), .ref (ad 29), .ref (ad 30), .ref (ad 31), .ref (ad 32), .ref (ad 33), .int (nI (rs_n zr 3)), .ref (ad 35), .ref (ad 36), .ref (ad 37), .int (rs_i zr 38)])), rcI cI ad zr 2 48, rcI cI ad zr 3 48, rcI cI ad zr 4 48, rcI cI ad zr 5 48, rcI cI ad zr 7 4, rcI cI ad zr 8 4, rcI cI ad zr 9 192, rcI cI ad zr 10 48, rcI cI ad zr 12 12, rcI cI ad zr 13 12, rcI cI ad zr 14 12, rcI cI ad zr 15 12, rcI cI ad zr 16 12, rcI cI ad zr 18 8, rcJ cJ ad zr 19 8, rcI cI ad zr 25 40, rcI cI ad zr 26 40, rcI cI ad zr 27 40, rcI cZ ad zr 28 40, rcJ cJ ad zr 29 40, rcJ cJ ad zr 30 40, rcJ cJ ad zr 31 40, rcJ cJ ad zr 32 40, rcJ cJ ad zr 33 40, rcI cI ad zr 35 80, rcI cI ad zr 36 80, rcI cI ad zr 37 80] := hD
                  refine lv_aload_n hx hb dX11_bid_96 rfl (lv_at hl 0 rfl) ?_
                  refine lv_dup hx hb dX11_bid_97 rfl ?_
                  refine va_get (D := (dC, dI)) (ci := 11) (v := .int (rs_i zr 22)) (C := RX11) (T := TX11) (N := 39) hx hb hts hiX11 hown hK hP 0 rfl rfl 22 (by decide) (hts (.fieldLink RX11 199 "TributePitchesModel" "bids" "I") (List.mem_of_getElem? (i := 2) rfl)) (fun _ h9 => h9) rfl dX11_bid_98 ?_
                  refine lv_iconst (v := 1) hx hb dX11_bid_101 (by decide) ?_
                  refine lv_iadd hx hb dX11_bid_102 ?_
                  refine va_put (D := (dC, dI)) (ci := 11) (v := .int ((rs_i zr 22) + 1)) (ty := .int) (C := RX11) (T := TX11) (N := 39) hx hb hts hiX11 tyX11 tyX11_ok nmX11 hown hK hP hD hS 0 rfl rfl 22 (by decide) (hts (.fieldLink RX11 199 "TributePitchesModel" "bids" "I") (List.mem_of_getElem? (i := 2) rfl)) (fun _ h9 => h9) rfl (by decide +kernel) rfl rfl (Nat.le_of_ble_eq_true rfl) dX11_bid_103 (fun H locs hP hD hS => ?_)
                  have hP : va_P (dC, dI) vwCl [(qm, .inr (11, [.int (rs_i zr 0), .int (rs_i zr 1), .ref (ad 2), .ref (ad 3), .ref (ad 4), .ref (ad 5), .int (rs_i zr 6), .ref (ad 7), .ref (ad 8), .ref (ad 9), .ref (ad 10), .int (nI (rs_n zr 0)), .ref (ad 12), .ref (ad 13), .ref (ad 14), .ref (ad 15), .ref (ad 16), .int (nI (rs_n zr 1)), .ref (ad 18), .ref (ad 19), .int (rs_i zr 20), .int sv, .int ((rs_i zr 22) + 1), .int (nI jg), .int (nI (rs_n zr 2)), .ref (ad 25), .ref (ad 26), .ref (ad 27), .ref (ad 28), .ref (ad 29), .ref (ad 30), .ref (ad 31), .ref (ad 32), .ref (ad 33), .int (nI (rs_n zr 3)), .ref (ad 35), .ref (ad 36), .ref (ad 37), .int (rs_i zr 38)])), rcI cI ad zr 2 48, rcI cI ad zr 3 48, rcI cI ad zr 4 48, rcI cI ad zr 5 48, rcI cI ad zr 7 4, rcI cI ad zr 8 4, rcI cI ad zr 9 192, rcI cI ad zr 10 48, rcI cI ad zr 12 12, rcI cI ad zr 13 12, rcI cI ad zr 14 12, rcI cI ad zr 15 12, rcI cI ad zr 16 12, rcI cI ad zr 18 8, rcJ cJ ad zr 19 8, rcI cI ad zr 25 40, rcI cI ad zr 26 40, rcI cI ad zr 27 40, rcI cZ ad zr 28 40, rcJ cJ ad zr 29 40, rcJ cJ ad zr 30 40, rcJ cJ ad zr 31 40, rcJ cJ ad zr 32 40, rcJ cJ ad zr 33 40, rcI cI ad zr 35 80, rcI cI ad zr 36 80, rcI cI ad zr 37 80] H := hP
                  have hD : va_D _ [(qm, .inr (11, [.int (rs_i zr 0), .int (rs_i zr 1), .ref (ad 2), .ref (ad 3), .ref (ad 4), .ref (ad 5), .int (rs_i zr 6), .ref (ad 7), .ref (ad 8), .ref (ad 9), .ref (ad 10), .int (nI (rs_n zr 0)), .ref (ad 12), .ref (ad 13), .ref (ad 14), .ref (ad 15), .ref (ad 16), .int (nI (rs_n zr 1)), .ref (ad 18), .ref (ad 19), .int (rs_i zr 20), .int sv, .int ((rs_i zr 22) + 1), .int (nI jg), .int (nI (rs_n zr 2)), .ref (ad 25), .ref (ad 26), .ref (ad 27), .ref (ad 28), .ref (ad 29), .ref (ad 30), .ref (ad 31), .ref (ad 32), .ref (ad 33), .int (nI (rs_n zr 3)), .ref (ad 35), .ref (ad 36), .ref (ad 37), .int (rs_i zr 38)])), rcI cI ad zr 2 48, rcI cI ad zr 3 48, rcI cI ad zr 4 48, rcI cI ad zr 5 48, rcI cI ad zr 7 4, rcI cI ad zr 8 4, rcI cI ad zr 9 192, rcI cI ad zr 10 48, rcI cI ad zr 12 12, rcI cI ad zr 13 12, rcI cI ad zr 14 12, rcI cI ad zr 15 12, rcI cI ad zr 16 12, rcI cI ad zr 18 8, rcJ cJ ad zr 19 8, rcI cI ad zr 25 40, rcI cI ad zr 26 40, rcI cI ad zr 27 40, rcI cZ ad zr 28 40, rcJ cJ ad zr 29 40, rcJ cJ ad zr 30 40, rcJ cJ ad zr 31 40, rcJ cJ ad zr 32 40, rcJ cJ ad zr 33 40, rcI cI ad zr 35 80, rcI cI ad zr 36 80, rcI cI ad zr 37 80] := hD
                  refine lv_aload_n hx hb dX11_bid_106 rfl (lv_at hl 0 rfl) ?_
                  refine va_get (D := (dC, dI)) (ci := 11) (v := .int ((rs_i zr 22) + 1)) (C := RX11) (T := TX11) (N := 39) hx hb hts hiX11 hown hK hP 0 rfl rfl 22 (by decide) (hts (.fieldLink RX11 199 "TributePitchesModel" "bids" "I") (List.mem_of_getElem? (i := 2) rfl)) (fun _ h9 => h9) rfl dX11_bid_107 ?_
                  subst hQ
                  have hlf := lr_bid_2 qm cI cJ cZ ad zr sv jg hjg c4 c5 c7 c8 c10 c11 hI
                  have hP9 : va_P (dC, dI) vwCl (rW qm cI cJ cZ ad (va_up (va_up (va_up (rs_i zr) 21 sv) 22 ((rs_i zr 22) + 1)) 23 (nI jg), rs_n zr, rs_I zr, rs_L zr)) H := by rw [hlf.2]; exact hP.sub [0, 1, 2, 3, 4, 5, 6, 7, 8, 9, 10, 11, 12, 13, 14, 15, 16, 17, 18, 19, 20, 21, 22, 23, 24, 25, 26, 27] rfl
                  have hD9 : va_D (va_A (rW qm cI cJ cZ ad zr) s.heap.size) (rW qm cI cJ cZ ad (va_up (va_up (va_up (rs_i zr) 21 sv) 22 ((rs_i zr 22) + 1)) 23 (nI jg), rs_n zr, rs_I zr, rs_L zr)) := by rw [hlf.2]; exact hD.sub [0, 1, 2, 3, 4, 5, 6, 7, 8, 9, 10, 11, 12, 13, 14, 15, 16, 17, 18, 19, 20, 21, 22, 23, 24, 25, 26, 27] (by decide) rfl
                  exact W.iret (v := (rs_i zr 22) + 1) hx hb hr (fun t ht hW => ⟨⟨(rs_i zr 22) + 1, (va_up (va_up (va_up (rs_i zr) 21 sv) 22 ((rs_i zr 22) + 1)) 23 (nI jg), rs_n zr, rs_I zr, rs_L zr), rfl, ⟨hlf.1, (Or.inr (Or.inr (Or.inl ⟨jg, rfl, hjg, c4, c5, c7, c8, c10, c11, rfl, rfl⟩)))⟩, by rw [ht]; exact hP9, va_K.moved hW.alike hK, hD9⟩, hS.F ht⟩) hS.2.2 dX11_bid_110
                · skip
                  refine lv_bipush (v := (-4)) hx hb dX11_bid_83 (by decide) ?_
                  subst hQ
                  exact W.iret (v := (-4)) hx hb hr (fun t ht hW => ⟨⟨(-4), zr, rfl, ⟨hI, (Or.inr (Or.inr (Or.inr (Or.inl ⟨jg, rfl, hjg, c4, c5, c7, c8, c10, c11, rfl, rfl⟩))))⟩, (by rw [ht]; exact hP0), va_K.moved hW.alike hK, hD0⟩, (by rw [ht]; exact Nat.le_refl _), fun q _ _ => by rw [ht]⟩) (fun q h => absurd h List.not_mem_nil) dX11_bid_85
              · skip
                refine lv_bipush (v := (-3)) hx hb dX11_bid_71 (by decide) ?_
                subst hQ
                exact W.iret (v := (-3)) hx hb hr (fun t ht hW => ⟨⟨(-3), zr, rfl, ⟨hI, (Or.inr (Or.inr (Or.inr (Or.inr (Or.inl ⟨jg, rfl, hjg, c4, c5, c7, c8, c10, rfl, rfl⟩)))))⟩, (by rw [ht]; exact hP0), va_K.moved hW.alike hK, hD0⟩, (by rw [ht]; exact Nat.le_refl _), fun q _ _ => by rw [ht]⟩) (fun q h => absurd h List.not_mem_nil) dX11_bid_73
          · skip
            have c7 := (fa_bool_prop hr6).1.mp c7
            refine lv_bipush (v := (-2)) hx hb dX11_bid_51 (by decide) ?_
            subst hQ
            exact W.iret (v := (-2)) hx hb hr (fun t ht hW => ⟨⟨(-2), zr, rfl, ⟨hI, (Or.inr (Or.inr (Or.inr (Or.inr (Or.inr (Or.inl ⟨jg, rfl, hjg, c4, c5, c7, rfl, rfl⟩))))))⟩, (by rw [ht]; exact hP0), va_K.moved hW.alike hK, hD0⟩, (by rw [ht]; exact Nat.le_refl _), fun q _ _ => by rw [ht]⟩) (fun q h => absurd h List.not_mem_nil) dX11_bid_53
        · skip
          refine lv_aload_n hx hb dX11_bid_30 rfl (lv_at hl 0 rfl) ?_
          refine va_get (D := (dC, dI)) (ci := 11) (v := .int (rs_i zr 21)) (C := RX11) (T := TX11) (N := 39) hx hb hts hiX11 hown hK hP 0 rfl rfl 21 (by decide) (hts (.fieldLink RX11 196 "TributePitchesModel" "latest" "I") (List.mem_of_getElem? (i := 3) rfl)) (fun _ h9 => h9) rfl dX11_bid_31 ?_
          refine lv_i2l (v := (rs_i zr 21).toInt64) hx hb dX11_bid_34 rfl ?_
          refine lv_goto (tgt := 45) hx hb dX11_bid_35 (by decide) ?_
          refine vp_callSi (va_Run.run (va_runS (As := [.long sv.toInt64, .long 1, .long ((rs_i zr 21).toInt64)]) (rest := []) ⟨hx, hb, hml, hown, hts⟩ (c_X11_in l sv.toInt64 1 ((rs_i zr 21).toInt64) ) (va_cwS 3 hts gX11_bid_X11_in rfl rfl rfl (by decide +kernel) ⟨Nat.le_of_ble_eq_true rfl, Nat.le_of_ble_eq_true rfl⟩) (p0_preS hN) rfl rfl hl.1 rfl (lv_room (Nat.le_of_ble_eq_true rfl)) dX11_bid_45 ⟨Nat.le_of_ble_eq_true rfl, Nat.le_of_ble_eq_true rfl⟩)) (fun r12 hr12 => ?_)
          have hr12 : r12 = if 1 ≤ sv.toInt64 ∧ sv.toInt64 ≤ ((rs_i zr 21).toInt64) then 1 else 0 := hr12
          refine lv_if_ne (tgt := 54) hx hb dX11_bid_48 (by decide) (fun c13 => ?_) (fun c13 => ?_)
          · skip
            have c13 := (fa_bool_prop hr12).2.mp c13
            refine lv_aload_n hx hb dX11_bid_54 rfl (lv_at hl 0 rfl) ?_
            refine va_get (D := (dC, dI)) (ci := 11) (v := .int (rs_i zr 23)) (C := RX11) (T := TX11) (N := 39) hx hb hts hiX11 hown hK hP 0 rfl rfl 23 (by decide) (hts (.fieldLink RX11 202 "TributePitchesModel" "bidder" "I") (List.mem_of_getElem? (i := 4) rfl)) (fun _ h9 => h9) rfl dX11_bid_55 ?_
            refine lv_iload_n hx hb dX11_bid_58 rfl (lv_at hl 1 rfl) ?_
            refine lv_icmp_eq (tgt := 71) hx hb dX11_bid_59 (by decide) (fun c14 => ?_) (fun c14 => ?_)
            · skip
              refine lv_bipush (v := (-3)) hx hb dX11_bid_71 (by decide) ?_
              subst hQ
              exact W.iret (v := (-3)) hx hb hr (fun t ht hW => ⟨⟨(-3), zr, rfl, ⟨hI, (Or.inr (Or.inr (Or.inr (Or.inr (Or.inr (Or.inr (Or.inl ⟨jg, rfl, hjg, c4, c5, c13, c14, rfl, rfl⟩)))))))⟩, (by rw [ht]; exact hP0), va_K.moved hW.alike hK, hD0⟩, (by rw [ht]; exact Nat.le_refl _), fun q _ _ => by rw [ht]⟩) (fun q h => absurd h List.not_mem_nil) dX11_bid_73
            · skip
              refine lv_aload_n hx hb dX11_bid_62 rfl (lv_at hl 0 rfl) ?_
              refine lv_iload_n hx hb dX11_bid_63 rfl (lv_at hl 1 rfl) ?_
              have hPc := hP.sub (ws' := [rcO qm ad zr, rcI cI ad zr 25 40, rcI cZ ad zr 28 40]) [0, 16, 19] rfl
              have hDc := hD.sub (ws' := [rcO qm ad zr, rcI cI ad zr 25 40, rcI cZ ad zr 28 40]) [0, 16, 19] (by decide) rfl
              have hKc := hK.sub (tys' := [(cI, .int), (cZ, .boolean)]) [0, 2] rfl
              refine vp_callSi (va_Run.run (va_runV (As := [.int (nI jg)]) (rest := []) ⟨hx, hb, hml, hown, hts⟩ (r_X11_letTo l dC dI cI cZ _ qm (.int (rs_i zr 0)) (.int (rs_i zr 1)) (.ref (ad 2)) (.ref (ad 3)) (.ref (ad 4)) (.ref (ad 5)) (.int (rs_i zr 6)) (.ref (ad 7)) (.ref (ad 8)) (.ref (ad 9)) (.ref (ad 10)) (.int (nI (rs_n zr 0))) (.ref (ad 12)) (.ref (ad 13)) (.ref (ad 14)) (.ref (ad 15)) (.ref (ad 16)) (.int (nI (rs_n zr 1))) (.ref (ad 18)) (.ref (ad 19)) (.int (rs_i zr 20)) (.int (rs_i zr 21)) (.int (rs_i zr 22)) (.int (rs_i zr 23)) (.ref (ad 26)) (.ref (ad 27)) (.ref (ad 29)) (.ref (ad 30)) (.ref (ad 31)) (.ref (ad 32)) (.ref (ad 33)) (.int (nI (rs_n zr 3))) (.ref (ad 35)) (.ref (ad 36)) (.ref (ad 37)) (.int (rs_i zr 38)) (ad 25) (ad 28) (rs_I zr 28) (nI (rs_n zr 2)) (nI jg) (rs_n zr 2) (rs_I zr 25) rfl (by omega)) (cwV 1 hts gX11_bid_X11_letTo rfl rfl rfl (by decide +kernel) ⟨Nat.le_of_ble_eq_true rfl, Nat.le_of_ble_eq_true rfl⟩) (pw_preV (va_recv hKc hPc (ci := 11) (q0 := 0) rfl rfl) hPc hKc hDc hN) rfl rfl hl.1 rfl (lv_room (Nat.le_of_ble_eq_true rfl)) dX11_bid_64 ⟨Nat.le_of_ble_eq_true rfl, Nat.le_of_ble_eq_true rfl⟩)) (fun r15 hr15 => ?_)
              have hr15 : r15 = nI (fa_cnt (fun t => decide ((rs_I zr 25) t = (nI jg) ∧ (rs_I zr 28) t = 0)) (rs_n zr 2)) := hr15
              have hr15 := hr15.symm
              subst hr15
              refine W.eq (g2 := F0 m 67 ls [.int (nI (fa_cnt (fun t => decide ((rs_I zr 25) t = (nI jg) ∧ (rs_I zr 28) t = 0)) (rs_n zr 2)))]) rfl ?_
              refine lv_iconst (v := 3) hx hb dX11_bid_67 (by decide) ?_
              refine lv_icmp_lt (tgt := 74) hx hb dX11_bid_68 (by decide) (fun c16 => ?_) (fun c16 => ?_)
              · skip
                refine lv_aload_n hx hb dX11_bid_74 rfl (lv_at hl 0 rfl) ?_
                refine va_get (D := (dC, dI)) (ci := 11) (v := .int (rs_i zr 22)) (C := RX11) (T := TX11) (N := 39) hx hb hts hiX11 hown hK hP 0 rfl rfl 22 (by decide) (hts (.fieldLink RX11 199 "TributePitchesModel" "bids" "I") (List.mem_of_getElem? (i := 2) rfl)) (fun _ h9 => h9) rfl dX11_bid_75 ?_
                refine lv_bipush (v := 20) hx hb dX11_bid_78 (by decide) ?_
                refine lv_icmp_ne (tgt := 86) hx hb dX11_bid_80 (by decide) (fun c17 => ?_) (fun c17 => ?_)
                · skip
                  refine lv_aload_n hx hb dX11_bid_86 rfl (lv_at hl 0 rfl) ?_
                  refine lv_iload_n hx hb dX11_bid_87 rfl (lv_at hl 1 rfl) ?_
                  refine va_put (D := (dC, dI)) (ci := 11) (v := .int (nI jg)) (ty := .int) (C := RX11) (T := TX11) (N := 39) hx hb hts hiX11 tyX11 tyX11_ok nmX11 hown hK hP hD hS 0 rfl rfl 23 (by decide) (hts (.fieldLink RX11 202 "TributePitchesModel" "bidder" "I") (List.mem_of_getElem? (i := 4) rfl)) (fun _ h9 => h9) rfl (by decide +kernel) rfl rfl (Nat.le_of_ble_eq_true rfl) dX11_bid_88 (fun H locs hP hD hS => ?_)
                  have hP : va_P (dC, dI) vwCl [(qm, .inr (11, [.int (rs_i zr 0), .int (rs_i zr 1), .ref (ad 2), .ref (ad 3), .ref (ad 4), .ref (ad 5), .int (rs_i zr 6), .ref (ad 7), .ref (ad 8), .ref (ad 9), .ref (ad 10), .int (nI (rs_n zr 0)), .ref (ad 12), .ref (ad 13), .ref (ad 14), .ref (ad 15), .ref (ad 16), .int (nI (rs_n zr 1)), .ref (ad 18), .ref (ad 19), .int (rs_i zr 20), .int (rs_i zr 21), .int (rs_i zr 22), .int (nI jg), .int (nI (rs_n zr 2)), .ref (ad 25), .ref (ad 26), .ref (ad 27), .ref (ad 28), .ref (ad 29), .ref (ad 30), .ref (ad 31), .ref (ad 32), .ref (ad 33), .int (nI (rs_n zr 3)), .ref (ad 35), .ref (ad 36), .ref (ad 37), .int (rs_i zr 38)])), rcI cI ad zr 2 48, rcI cI ad zr 3 48, rcI cI ad zr 4 48, rcI cI ad zr 5 48, rcI cI ad zr 7 4, rcI cI ad zr 8 4, rcI cI ad zr 9 192, rcI cI ad zr 10 48, rcI cI ad zr 12 12, rcI cI ad zr 13 12, rcI cI ad zr 14 12, rcI cI ad zr 15 12, rcI cI ad zr 16 12, rcI cI ad zr 18 8, rcJ cJ ad zr 19 8, rcI cI ad zr 25 40, rcI cI ad zr 26 40, rcI cI ad zr 27 40, rcI cZ ad zr 28 40, rcJ cJ ad zr 29 40, rcJ cJ ad zr 30 40, rcJ cJ ad zr 31 40, rcJ cJ ad zr 32 40, rcJ cJ ad zr 33 40, rcI cI ad zr 35 80, rcI cI ad zr 36 80, rcI cI ad zr 37 80] H := hP
                  have hD : va_D _ [(qm, .inr (11, [.int (rs_i zr 0), .int (rs_i zr 1), .ref (ad 2), .ref (ad 3), .ref (ad 4), .ref (ad 5), .int (rs_i zr 6), .ref (ad 7), .ref (ad 8), .ref (ad 9), .ref (ad 10), .int (nI (rs_n zr 0)), .ref (ad 12), .ref (ad 13), .ref (ad 14), .ref (ad 15), .ref (ad 16), .int (nI (rs_n zr 1)), .ref (ad 18), .ref (ad 19), .int (rs_i zr 20), .int (rs_i zr 21), .int (rs_i zr 22), .int (nI jg), .int (nI (rs_n zr 2)), .ref (ad 25), .ref (ad 26), .ref (ad 27), .ref (ad 28), .ref (ad 29), .ref (ad 30), .ref (ad 31), .ref (ad 32), .ref (ad 33), .int (nI (rs_n zr 3)), .ref (ad 35), .ref (ad 36), .ref (ad 37), .int (rs_i zr 38)])), rcI cI ad zr 2 48, rcI cI ad zr 3 48, rcI cI ad zr 4 48, rcI cI ad zr 5 48, rcI cI ad zr 7 4, rcI cI ad zr 8 4, rcI cI ad zr 9 192, rcI cI ad zr 10 48, rcI cI ad zr 12 12, rcI cI ad zr 13 12, rcI cI ad zr 14 12, rcI cI ad zr 15 12, rcI cI ad zr 16 12, rcI cI ad zr 18 8, rcJ cJ ad zr 19 8, rcI cI ad zr 25 40, rcI cI ad zr 26 40, rcI cI ad zr 27 40, rcI cZ ad zr 28 40, rcJ cJ ad zr 29 40, rcJ cJ ad zr 30 40, rcJ cJ ad zr 31 40, rcJ cJ ad zr 32 40, rcJ cJ ad zr 33 40, rcI cI ad zr 35 80, rcI cI ad zr 36 80, rcI cI ad zr 37 80] := hD
                  refine lv_aload_n hx hb dX11_bid_91 rfl (lv_at hl 0 rfl) ?_
                  refine lv_iload_n hx hb dX11_bid_92 rfl (lv_at hl 2 rfl) ?_
                  refine va_put (D := (dC, dI)) (ci := 11) (v := .int sv) (ty := .int) (C := RX11) (T := TX11) (N := 39) hx hb hts hiX11 tyX11 tyX11_ok nmX11 hown hK hP hD hS 0 rfl rfl 21 (by decide) (hts (.fieldLink RX11 196 "TributePitchesModel" "latest" "I") (List.mem_of_getElem? (i := 3) rfl)) (fun _ h9 => h9) rfl (by decide +kernel) rfl rfl (Nat.le_of_ble_eq_true rfl) dX11_bid_93 (fun H locs hP hD hS => ?_)
                  have hP : va_P (dC, dI) vwCl [(qm, .inr (11, [.int (rs_i zr 0), .int (rs_i zr 1), .ref (ad 2), .ref (ad 3), .ref (ad 4), .ref (ad 5), .int (rs_i zr 6), .ref (ad 7), .ref (ad 8), .ref (ad 9), .ref (ad 10), .int (nI (rs_n zr 0)), .ref (ad 12), .ref (ad 13), .ref (ad 14), .ref (ad 15), .ref (ad 16), .int (nI (rs_n zr 1)), .ref (ad 18), .ref (ad 19), .int (rs_i zr 20), .int sv, .int (rs_i zr 22), .int (nI jg), .int (nI (rs_n zr 2)), .ref (ad 25), .ref (ad 26), .ref (ad 27), .ref (ad 28), .ref (ad 29), .ref (ad 30), .ref (ad 31), .ref (ad 32), .ref (ad 33), .int (nI (rs_n zr 3)), .ref (ad 35), .ref (ad 36), .ref (ad 37), .int (rs_i zr 38)])), rcI cI ad zr 2 48, rcI cI ad zr 3 48, rcI cI ad zr 4 48, rcI cI ad zr 5 48, rcI cI ad zr 7 4, rcI cI ad zr 8 4, rcI cI ad zr 9 192, rcI cI ad zr 10 48, rcI cI ad zr 12 12, rcI cI ad zr 13 12, rcI cI ad zr 14 12, rcI cI ad zr 15 12, rcI cI ad zr 16 12, rcI cI ad zr 18 8, rcJ cJ ad zr 19 8, rcI cI ad zr 25 40, rcI cI ad zr 26 40, rcI cI ad zr 27 40, rcI cZ ad zr 28 40, rcJ cJ ad zr 29 40, rcJ cJ ad zr 30 40, rcJ cJ ad zr 31 40, rcJ cJ ad zr 32 40, rcJ cJ ad zr 33 40, rcI cI ad zr 35 80, rcI cI ad zr 36 80, rcI cI ad zr 37 80] H := hP
                  have hD : va_D _ [(qm, .inr (11, [.int (rs_i zr 0), .int (rs_i zr 1), .ref (ad 2), .ref (ad 3), .ref (ad 4), .ref (ad 5), .int (rs_i zr 6), .ref (ad 7), .ref (ad 8), .ref (ad 9), .ref (ad 10), .int (nI (rs_n zr 0)), .ref (ad 12), .ref (ad 13), .ref (ad 14), .ref (ad 15), .ref (ad 16), .int (nI (rs_n zr 1)), .ref (ad 18), .ref (ad 19), .int (rs_i zr 20), .int sv, .int (rs_i zr 22), .int (nI jg), .int (nI (rs_n zr 2)), .ref (ad 25), .ref (ad 26), .ref (ad 27), .ref (ad 28), .ref (ad 29), .ref (ad 30), .ref (ad 31), .ref (ad 32), .ref (ad 33), .int (nI (rs_n zr 3)), .ref (ad 35), .ref (ad 36), .ref (ad 37), .int (rs_i zr 38)])), rcI cI ad zr 2 48, rcI cI ad zr 3 48, rcI cI ad zr 4 48, rcI cI ad zr 5 48, rcI cI ad zr 7 4, rcI cI ad zr 8 4, rcI cI ad zr 9 192, rcI cI ad zr 10 48, rcI cI ad zr 12 12, rcI cI ad zr 13 12, rcI cI ad zr 14 12, rcI cI ad zr 15 12, rcI cI ad zr 16 12, rcI cI ad zr 18 8, rcJ cJ ad zr 19 8, rcI cI ad zr 25 40, rcI cI ad zr 26 40, rcI cI ad zr 27 40, rcI cZ ad zr 28 40, rcJ cJ ad zr 29 40, rcJ cJ ad zr 30 40, rcJ cJ ad zr 31 40, rcJ cJ ad zr 32 40, rcJ cJ ad zr 33 40, rcI cI ad zr 35 80, rcI cI ad zr 36 80, rcI cI ad zr 37 80] := hD
                  refine lv_aload_n hx hb dX11_bid_96 rfl (lv_at hl 0 rfl) ?_
                  refine lv_dup hx hb dX11_bid_97 rfl ?_
                  refine va_get (D := (dC, dI)) (ci := 11) (v := .int (rs_i zr 22)) (C := RX11) (T := TX11) (N := 39) hx hb hts hiX11 hown hK hP 0 rfl rfl 22 (by decide) (hts (.fieldLink RX11 199 "TributePitchesModel" "bids" "I") (List.mem_of_getElem? (i := 2) rfl)) (fun _ h9 => h9) rfl dX11_bid_98 ?_
                  refine lv_iconst (v := 1) hx hb dX11_bid_101 (by decide) ?_
                  refine lv_iadd hx hb dX11_bid_102 ?_
                  refine va_put (D := (dC, dI)) (ci := 11) (v := .int ((rs_i zr 22) + 1)) (ty := .int) (C := RX11) (T := TX11) (N := 39) hx hb hts hiX11 tyX11 tyX11_ok nmX11 hown hK hP hD hS 0 rfl rfl 22 (by decide) (hts (.fieldLink RX11 199 "TributePitchesModel" "bids" "I") (List.mem_of_getElem? (i := 2) rfl)) (fun _ h9 => h9) rfl (by decide +kernel) rfl rfl (Nat.le_of_ble_eq_true rfl) dX11_bid_103 (fun H locs hP hD hS => ?_)
                  have hP : va_P (dC, dI) vwCl [(qm, .inr (11, [.int (rs_i zr 0), .int (rs_i zr 1), .ref (ad 2), .ref (ad 3), .ref (ad 4), .ref (ad 5), .int (rs_i zr 6), .ref (ad 7), .ref (ad 8), .ref (ad 9), .ref (ad 10), .int (nI (rs_n zr 0)), .ref (ad 12), .ref (ad 13), .ref (ad 14), .ref (ad 15), .ref (ad 16), .int (nI (rs_n zr 1)), .ref (ad 18), .ref (ad 19), .int (rs_i zr 20), .int sv, .int ((rs_i zr 22) + 1), .int (nI jg), .int (nI (rs_n zr 2)), .ref (ad 25), .ref (ad 26), .ref (ad 27), .ref (ad 28), .ref (ad 29), .ref (ad 30), .ref (ad 31), .ref (ad 32), .ref (ad 33), .int (nI (rs_n zr 3)), .ref (ad 35), .ref (ad 36), .ref (ad 37), .int (rs_i zr 38)])), rcI cI ad zr 2 48, rcI cI ad zr 3 48, rcI cI ad zr 4 48, rcI cI ad zr 5 48, rcI cI ad zr 7 4, rcI cI ad zr 8 4, rcI cI ad zr 9 192, rcI cI ad zr 10 48, rcI cI ad zr 12 12, rcI cI ad zr 13 12, rcI cI ad zr 14 12, rcI cI ad zr 15 12, rcI cI ad zr 16 12, rcI cI ad zr 18 8, rcJ cJ ad zr 19 8, rcI cI ad zr 25 40, rcI cI ad zr 26 40, rcI cI ad zr 27 40, rcI cZ ad zr 28 40, rcJ cJ ad zr 29 40, rcJ cJ ad zr 30 40, rcJ cJ ad zr 31 40, rcJ cJ ad zr 32 40, rcJ cJ ad zr 33 40, rcI cI ad zr 35 80, rcI cI ad zr 36 80, rcI cI ad zr 37 80] H := hP
                  have hD : va_D _ [(qm, .inr (11, [.int (rs_i zr 0), .int (rs_i zr 1), .ref (ad 2), .ref (ad 3), .ref (ad 4), .ref (ad 5), .int (rs_i zr 6), .ref (ad 7), .ref (ad 8), .ref (ad 9), .ref (ad 10), .int (nI (rs_n zr 0)), .ref (ad 12), .ref (ad 13), .ref (ad 14), .ref (ad 15), .ref (ad 16), .int (nI (rs_n zr 1)), .ref (ad 18), .ref (ad 19), .int (rs_i zr 20), .int sv, .int ((rs_i zr 22) + 1), .int (nI jg), .int (nI (rs_n zr 2)), .ref (ad 25), .ref (ad 26), .ref (ad 27), .ref (ad 28), .ref (ad 29), .ref (ad 30), .ref (ad 31), .ref (ad 32), .ref (ad 33), .int (nI (rs_n zr 3)), .ref (ad 35), .ref (ad 36), .ref (ad 37), .int (rs_i zr 38)])), rcI cI ad zr 2 48, rcI cI ad zr 3 48, rcI cI ad zr 4 48, rcI cI ad zr 5 48, rcI cI ad zr 7 4, rcI cI ad zr 8 4, rcI cI ad zr 9 192, rcI cI ad zr 10 48, rcI cI ad zr 12 12, rcI cI ad zr 13 12, rcI cI ad zr 14 12, rcI cI ad zr 15 12, rcI cI ad zr 16 12, rcI cI ad zr 18 8, rcJ cJ ad zr 19 8, rcI cI ad zr 25 40, rcI cI ad zr 26 40, rcI cI ad zr 27 40, rcI cZ ad zr 28 40, rcJ cJ ad zr 29 40, rcJ cJ ad zr 30 40, rcJ cJ ad zr 31 40, rcJ cJ ad zr 32 40, rcJ cJ ad zr 33 40, rcI cI ad zr 35 80, rcI cI ad zr 36 80, rcI cI ad zr 37 80] := hD
                  refine lv_aload_n hx hb dX11_bid_106 rfl (lv_at hl 0 rfl) ?_
                  refine va_get (D := (dC, dI)) (ci := 11) (v := .int ((rs_i zr 22) + 1)) (C := RX11) (T := TX11) (N := 39) hx hb hts hiX11 hown hK hP 0 rfl rfl 22 (by decide) (hts (.fieldLink RX11 199 "TributePitchesModel" "bids" "I") (List.mem_of_getElem? (i := 2) rfl)) (fun _ h9 => h9) rfl dX11_bid_107 ?_
                  subst hQ
                  have hlf := lr_bid_7 qm cI cJ cZ ad zr sv jg hjg c4 c5 c13 c14 c16 c17 hI
                  have hP9 : va_P (dC, dI) vwCl (rW qm cI cJ cZ ad (va_up (va_up (va_up (rs_i zr) 21 sv) 22 ((rs_i zr 22) + 1)) 23 (nI jg), rs_n zr, rs_I zr, rs_L zr)) H := by rw [hlf.2]; exact hP.sub [0, 1, 2, 3, 4, 5, 6, 7, 8, 9, 10, 11, 12, 13, 14, 15, 16, 17, 18, 19, 20, 21, 22, 23, 24, 25, 26, 27] rfl
                  have hD9 : va_D (va_A (rW qm cI cJ cZ ad zr) s.heap.size) (rW qm cI cJ cZ ad (va_up (va_up (va_up (rs_i zr) 21 sv) 22 ((rs_i zr 22) + 1)) 23 (nI jg), rs_n zr, rs_I zr, rs_L zr)) := by rw [hlf.2]; exact hD.sub [0, 1, 2, 3, 4, 5, 6, 7, 8, 9, 10, 11, 12, 13, 14, 15, 16, 17, 18, 19, 20, 21, 22, 23, 24, 25, 26, 27] (by decide) rfl
                  exact W.iret (v := (rs_i zr 22) + 1) hx hb hr (fun t ht hW => ⟨⟨(rs_i zr 22) + 1, (va_up (va_up (va_up (rs_i zr) 21 sv) 22 ((rs_i zr 22) + 1)) 23 (nI jg), rs_n zr, rs_I zr, rs_L zr), rfl, ⟨hlf.1, (Or.inr (Or.inr (Or.inr (Or.inr (Or.inr (Or.inr (Or.inr (Or.inl ⟨jg, rfl, hjg, c4, c5, c13, c14, c16, c17, rfl, rfl⟩))))))))⟩, by rw [ht]; exact hP9, va_K.moved hW.alike hK, hD9⟩, hS.F ht⟩) hS.2.2 dX11_bid_110
                · skip
                  refine lv_bipush (v := (-4)) hx hb dX11_bid_83 (by decide) ?_
                  subst hQ
                  exact W.iret (v := (-4)) hx hb hr (fun t ht hW => ⟨⟨(-4), zr, rfl, ⟨hI, (Or.inr (Or.inr (Or.inr (Or.inr (Or.inr (Or.inr (Or.inr (Or.inr (Or.inl ⟨jg, rfl, hjg, c4, c5, c13, c14, c16, c17, rfl, rfl⟩)))))))))⟩, (by rw [ht]; exact hP0), va_K.moved hW.alike hK, hD0⟩, (by rw [ht]; exact Nat.le_refl _), fun q _ _ => by rw [ht]⟩) (fun q h => absurd h List.not_mem_nil) dX11_bid_85
              · skip
                refine lv_bipush (v := (-3)) hx hb dX11_bid_71 (by decide) ?_
                subst hQ
                exact W.iret (v := (-3)) hx hb hr (fun t ht hW => ⟨⟨(-3), zr, rfl, ⟨hI, (Or.inr (Or.inr (Or.inr (Or.inr (Or.inr (Or.inr (Or.inr (Or.inr (Or.inr (Or.inl ⟨jg, rfl, hjg, c4, c5, c13, c14, c16, rfl, rfl⟩))))))))))⟩, (by rw [ht]; exact hP0), va_K.moved hW.alike hK, hD0⟩, (by rw [ht]; exact Nat.le_refl _), fun q _ _ => by rw [ht]⟩) (fun q h => absurd h List.not_mem_nil) dX11_bid_73
          · skip
            have c13 := (fa_bool_prop hr12).1.mp c13
            refine lv_bipush (v := (-2)) hx hb dX11_bid_51 (by decide) ?_
            subst hQ
            exact W.iret (v := (-2)) hx hb hr (fun t ht hW => ⟨⟨(-2), zr, rfl, ⟨hI, (Or.inr (Or.inr (Or.inr (Or.inr (Or.inr (Or.inr (Or.inr (Or.inr (Or.inr (Or.inr (Or.inl ⟨jg, rfl, hjg, c4, c5, c13, rfl, rfl⟩)))))))))))⟩, (by rw [ht]; exact hP0), va_K.moved hW.alike hK, hD0⟩, (by rw [ht]; exact Nat.le_refl _), fun q _ _ => by rw [ht]⟩) (fun q h => absurd h List.not_mem_nil) dX11_bid_53
      · skip
        refine lv_bipush (v := (-3)) hx hb dX11_bid_17 (by decide) ?_
        subst hQ
        exact W.iret (v := (-3)) hx hb hr (fun t ht hW => ⟨⟨(-3), zr, rfl, ⟨hI, (Or.inr (Or.inr (Or.inr (Or.inr (Or.inr (Or.inr (Or.inr (Or.inr (Or.inr (Or.inr (Or.inr ⟨jg, rfl, hjg, c4, rfl, rfl⟩)))))))))))⟩, (by rw [ht]; exact hP0), va_K.moved hW.alike hK, hD0⟩, (by rw [ht]; exact Nat.le_refl _), fun q _ _ => by rw [ht]⟩) (fun q h => absurd h List.not_mem_nil) dX11_bid_19
    · exact absurd c3 (by decide)
def pR_parcel (zr : RS2) (t : Int32) (tn : Int32) (gd : Int32) (r : Int32) (u : RS2) : Prop :=
  ((∀ j, j < rs_n zr 2 → t ≠ nI j) ∧ r = ((-1)) ∧ u = zr) ∨
  (∃ jt : Nat, t = nI jt ∧ (jt < rs_n zr 2) ∧ (¬ (1 ≤ tn ∧ tn ≤ 1000)) ∧ r = ((-2)) ∧ u = zr) ∨
  (∃ jt : Nat, t = nI jt ∧ (jt < rs_n zr 2) ∧ (1 ≤ tn ∧ tn ≤ 1000) ∧ (0 ≤ gd ∧ gd ≤ 1000) ∧ (((rs_I zr 28) jt) = 0) ∧ (¬ (nI (rs_n zr 3)) = 80) ∧ (rs_n zr 3 < 80) ∧ r = (nI (rs_n zr 3)) ∧ u = (rs_i zr, va_up (rs_n zr) 3 (rs_n zr 3 + 1), va_up (va_up (va_up (rs_I zr) 35 (upd (rs_I zr 35) (rs_n zr 3) (nI jt))) 36 (upd (rs_I zr 36) (rs_n zr 3) tn)) 37 (upd (rs_I zr 37) (rs_n zr 3) gd), rs_L zr)) ∨
  (∃ jt : Nat, t = nI jt ∧ (jt < rs_n zr 2) ∧ (1 ≤ tn ∧ tn ≤ 1000) ∧ (0 ≤ gd ∧ gd ≤ 1000) ∧ (((rs_I zr 28) jt) = 0) ∧ ((nI (rs_n zr 3)) = 80) ∧ r = ((-4)) ∧ u = zr) ∨
  (∃ jt : Nat, t = nI jt ∧ (jt < rs_n zr 2) ∧ (1 ≤ tn ∧ tn ≤ 1000) ∧ (0 ≤ gd ∧ gd ≤ 1000) ∧ (¬ ((rs_I zr 28) jt) = 0) ∧ r = ((-3)) ∧ u = zr) ∨
  (∃ jt : Nat, t = nI jt ∧ (jt < rs_n zr 2) ∧ (1 ≤ tn ∧ tn ≤ 1000) ∧ (¬ (0 ≤ gd ∧ gd ≤ 1000)) ∧ r = ((-2)) ∧ u = zr)
set_option maxHeartbeats 4000000 in
theorem lr_parcel_2 (qm : Nat) (cI cJ cZ : ClassId) (ad : Nat → Nat) (zr : RS2) (tn : Int32) (gd : Int32) (jt : Nat) (hjt : jt < rs_n zr 2) (c5 : 1 ≤ tn ∧ tn ≤ 1000) (c7 : 0 ≤ gd ∧ gd ≤ 1000) (c9 : ((rs_I zr 28) jt) = 0) (c10 : ¬ (nI (rs_n zr 3)) = 80) (hk8 : rs_n zr 3 < 80) (hI : invR zr) : invR (rs_i zr, va_up (rs_n zr) 3 (rs_n zr 3 + 1), va_up (va_up (va_up (rs_I zr) 35 (upd (rs_I zr 35) (rs_n zr 3) (nI jt))) 36 (upd (rs_I zr 36) (rs_n zr 3) tn)) 37 (upd (rs_I zr 37) (rs_n zr 3) gd), rs_L zr) ∧ rW qm cI cJ cZ ad (rs_i zr, va_up (rs_n zr) 3 (rs_n zr 3 + 1), va_up (va_up (va_up (rs_I zr) 35 (upd (rs_I zr 35) (rs_n zr 3) (nI jt))) 36 (upd (rs_I zr 36) (rs_n zr 3) tn)) 37 (upd (rs_I zr 37) (rs_n zr 3) gd), rs_L zr) = [(qm, .inr (11, [.int (rs_i zr 0), .int (rs_i zr 1), .ref (ad 2), .ref (ad 3), .ref (ad 4), .ref (ad 5), .int (rs_i zr 6), .ref (ad 7), .ref (ad 8), .ref (ad 9), .ref (ad 10), .int (nI (rs_n zr 0)), .ref (ad 12), .ref (ad 13), .ref (ad 14), .ref (ad 15), .ref (ad 16), .int (nI (rs_n zr 1)), .ref (ad 18), .ref (ad 19), .int (rs_i zr 20), .int (rs_i zr 21), .int (rs_i zr 22), .int (rs_i zr 23), .int (nI (rs_n zr 2)), .ref (ad 25), .ref (ad 26), .ref (ad 27), .ref (ad 28), .ref (ad 29), .ref (ad 30), .ref (ad 31), .ref (ad 32), .ref (ad 33), .int (nI (rs_n zr 3 + 1)), .ref (ad 35), .ref (ad 36), .ref (ad 37), .int (rs_i zr 38)])), rcI cI ad zr 2 48, rcI cI ad zr 3 48, rcI cI ad zr 4 48, rcI cI ad zr 5 48, rcI cI ad zr 7 4, rcI cI ad zr 8 4, rcI cI ad zr 9 192, rcI cI ad zr 10 48, rcI cI ad zr 12 12, rcI cI ad zr 13 12, rcI cI ad zr 14 12, rcI cI ad zr 15 12, rcI cI ad zr 16 12, rcI cI ad zr 18 8, rcJ cJ ad zr 19 8, rcI cI ad zr 25 40, rcI cI ad zr 26 40, rcI cI ad zr 27 40, rcI cZ ad zr 28 40, rcJ cJ ad zr 29 40, rcJ cJ ad zr 30 40, rcJ cJ ad zr 31 40, rcJ cJ ad zr 32 40, rcJ cJ ad zr 33 40, (ad 35, .inl (cI, 80, .inl (upd (rs_I zr 35) (rs_n zr 3) (nI jt)))), (ad 36, .inl (cI, 80, .inl (upd (rs_I zr 36) (rs_n zr 3) tn))), (ad 37, .inl (cI, 80, .inl (upd (rs_I zr 37) (rs_n zr 3) gd)))] := by
  obtain ⟨⟨hn0, hn1, hn2, hn3⟩, hfar, hlh, hss, hsold, htk, hpk⟩ := id hI
  exact ⟨(by refine ⟨⟨hn0, hn1, hn2, (show rs_n zr 3 + 1 ≤ 80 by omega)⟩, hfar, hlh, hss, hsold, htk, (fun k hk => ?_)⟩; have hk : k < rs_n zr 3 + 1 := hk; show ∃ t, t < rs_n zr 2 ∧ upd (rs_I zr 35) (rs_n zr 3) (nI jt) k = nI t; by_cases h9 : k = rs_n zr 3; (exact ⟨jt, hjt, by rw [h9, pk_us]⟩); (obtain ⟨t, h1, h2⟩ := hpk k (by omega); exact ⟨t, h1, by rw [pk_un h9]; exact h2⟩)), by simp [rW, rcO, rcI, rcJ, rs_i, rs_n, rs_I, rs_L, va_up, upd]⟩
set_option maxHeartbeats 4000000 in
set_option maxRecDepth 100000 in
theorem M_parcel (l : Launch) (dC : Nat → ClassId) (dI : Nat → Nat → Nat) (cI cJ cZ : ClassId) (sz : Nat) (qm : Nat) (ad : Nat → Nat) (zr : RS2) (t : Int32) (tn : Int32) (gd : Int32) (hI : invR zr) : Met l yX11_parcel wsX11_parcel ({ frames := 3, cells := 0, slots := 0, locals := 90 }) (pw (dC, dI) [(cI, .int), (cJ, .long), (cZ, .boolean)] (rW qm cI cJ cZ ad zr) sz [.ref qm, .int t, .int tn, .int gd]) (va_Qi (fun r (u : RS2) => invR u ∧ pR_parcel zr t tn gd r u) (fun u t => bw (dC, dI) [(cI, .int), (cJ, .long), (cZ, .boolean)] (va_A (rW qm cI cJ cZ ad zr) sz) (rW qm cI cJ cZ ad u) t) (va_A (rW qm cI cJ cZ ad zr) sz)) 0 0 (va_A (rW qm cI cJ cZ ad zr) sz) := by
  refine pw_met (cc := cX11_parcel) (maxL := 4) (ret := (some .int)) (by decide) rfl (Nat.le_of_ble_eq_true rfl) ?_
  intro p e s m below meth c0 hx hb hr hml hown hlocks hnm hts hP0 hK hD0 hN hsz hA hS ls hl
  subst hsz
  have hP : va_P (dC, dI) vwCl [rcO qm ad zr, rcI cI ad zr 2 48, rcI cI ad zr 3 48, rcI cI ad zr 4 48, rcI cI ad zr 5 48, rcI cI ad zr 7 4, rcI cI ad zr 8 4, rcI cI ad zr 9 192, rcI cI ad zr 10 48, rcI cI ad zr 12 12, rcI cI ad zr 13 12, rcI cI ad zr 14 12, rcI cI ad zr 15 12, rcI cI ad zr 16 12, rcI cI ad zr 18 8, rcJ cJ ad zr 19 8, rcI cI ad zr 25 40, rcI cI ad zr 26 40, rcI cI ad zr 27 40, rcI cZ ad zr 28 40, rcJ cJ ad zr 29 40, rcJ cJ ad zr 30 40, rcJ cJ ad zr 31 40, rcJ cJ ad zr 32 40, rcJ cJ ad zr 33 40, rcI cI ad zr 35 80, rcI cI ad zr 36 80, rcI cI ad zr 37 80] s.heap := hP0
  have hD : va_D (va_A (rW qm cI cJ cZ ad zr) s.heap.size) [rcO qm ad zr, rcI cI ad zr 2 48, rcI cI ad zr 3 48, rcI cI ad zr 4 48, rcI cI ad zr 5 48, rcI cI ad zr 7 4, rcI cI ad zr 8 4, rcI cI ad zr 9 192, rcI cI ad zr 10 48, rcI cI ad zr 12 12, rcI cI ad zr 13 12, rcI cI ad zr 14 12, rcI cI ad zr 15 12, rcI cI ad zr 16 12, rcI cI ad zr 18 8, rcJ cJ ad zr 19 8, rcI cI ad zr 25 40, rcI cI ad zr 26 40, rcI cI ad zr 27 40, rcI cZ ad zr 28 40, rcJ cJ ad zr 29 40, rcJ cJ ad zr 30 40, rcJ cJ ad zr 31 40, rcJ cJ ad zr 32 40, rcJ cJ ad zr 33 40, rcI cI ad zr 35 80, rcI cI ad zr 36 80, rcI cI ad zr 37 80] := hD0
  obtain ⟨⟨hn0, hn1, hn2, hn3⟩, hfar, hlh, hss, hsold, htk, hpk⟩ := id hI
  have hl : lv_has ls 4 [(0, .ref qm), (1, .int t), (2, .int tn), (3, .int gd)] := hl
  have hiX11 : ∀ w ∈ wsX110, w ∈ wsX11_parcel := fun _ h => List.mem_cons_of_mem _ (List.mem_append_right _ (h))
  generalize hQ : MQ _ _ _ _ _ _ _ = Q
  refine lv_aload_n hx hb dX11_parcel_0 rfl (lv_at hl 0 rfl) ?_
  refine lv_iload_n hx hb dX11_parcel_1 rfl (lv_at hl 1 rfl) ?_
  have hPc := hP.sub (ws' := [rcO qm ad zr]) [0] rfl
  have hDc := hD.sub (ws' := [rcO qm ad zr]) [0] (by decide) rfl
  have hKc := hK.sub (tys' := []) [] rfl
  refine vp_callSi (va_Run.run (va_runV (As := [.int t]) (rest := []) ⟨hx, hb, hml, hown, hts⟩ (r_X11_noTake l dC dI  _ qm (.int (rs_i zr 0)) (.int (rs_i zr 1)) (.ref (ad 2)) (.ref (ad 3)) (.ref (ad 4)) (.ref (ad 5)) (.int (rs_i zr 6)) (.ref (ad 7)) (.ref (ad 8)) (.ref (ad 9)) (.ref (ad 10)) (.int (nI (rs_n zr 0))) (.ref (ad 12)) (.ref (ad 13)) (.ref (ad 14)) (.ref (ad 15)) (.ref (ad 16)) (.int (nI (rs_n zr 1))) (.ref (ad 18)) (.ref (ad 19)) (.int (rs_i zr 20)) (.int (rs_i zr 21)) (.int (rs_i zr 22)) (.int (rs_i zr 23)) (.ref (ad 25)) (.ref (ad 26)) (.ref (ad 27)) (.ref (ad 28)) (.ref (ad 29)) (.ref (ad 30)) (.ref (ad 31)) (.ref (ad 32)) (.ref (ad 33)) (.int (nI (rs_n zr 3))) (.ref (ad 35)) (.ref (ad 36)) (.ref (ad 37)) (.int (rs_i zr 38)) (nI (rs_n zr 2)) t (rs_n zr 2) rfl (by omega)) (cwV 1 hts gX11_parcel_X11_noTake rfl rfl rfl (by decide +kernel) ⟨Nat.le_of_ble_eq_true rfl, Nat.le_of_ble_eq_true rfl⟩) (pw_preV (va_recv hKc hPc (ci := 11) (q0 := 0) rfl rfl) hPc hKc hDc hN) rfl rfl hl.1 rfl (lv_room (Nat.le_of_ble_eq_true rfl)) dX11_parcel_2 ⟨Nat.le_of_ble_eq_true rfl, Nat.le_of_ble_eq_true rfl⟩)) (fun r1 hr1 => ?_)
  have hr1 : (r1 = 1 ∧ ∀ j, j < (rs_n zr 2) → t ≠ nI j) ∨ (r1 = 0 ∧ ∃ j, j < (rs_n zr 2) ∧ t = nI j) := hr1
  rcases hr1 with ⟨er1, hnojt⟩ | ⟨er1, jt, hjt, egjt⟩
  · subst er1
    refine lv_if_eq (tgt := 10) hx hb dX11_parcel_5 (by decide) (fun c2 => ?_) (fun c2 => ?_)
    · exact absurd c2 (by decide)
    · skip
      refine lv_iconst (v := (-1)) hx hb dX11_parcel_8 (by decide) ?_
      subst hQ
      exact W.iret (v := (-1)) hx hb hr (fun t ht hW => ⟨⟨(-1), zr, rfl, ⟨hI, (Or.inl ⟨hnojt, rfl, rfl⟩)⟩, (by rw [ht]; exact hP0), va_K.moved hW.alike hK, hD0⟩, (by rw [ht]; exact Nat.le_refl _), fun q _ _ => by rw [ht]⟩) (fun q h => absurd h List.not_mem_nil) dX11_parcel_9
  · subst er1
    subst egjt
    refine lv_if_eq (tgt := 10) hx hb dX11_parcel_5 (by decide) (fun c3 => ?_) (fun c3 => ?_)
    · skip
      refine lv_iload_n hx hb dX11_parcel_10 rfl (lv_at hl 2 rfl) ?_
      refine lv_i2l (v := tn.toInt64) hx hb dX11_parcel_11 rfl ?_
      refine lv_lconst (v := 1) hx hb dX11_parcel_12 (by decide) ?_
      refine lv_ldc2 (v := 1000) hx hb hown (hts (.constantLong RX11 133 (1000)) (List.mem_of_getElem? (i := 1) rfl)) dX11_parcel_13 ?_
      refine vp_callSi (va_Run.run (va_runS (As := [.long tn.toInt64, .long 1, .long 1000]) (rest := []) ⟨hx, hb, hml, hown, hts⟩ (c_X11_in l tn.toInt64 1 1000 ) (va_cwS 3 hts gX11_parcel_X11_in rfl rfl rfl (by decide +kernel) ⟨Nat.le_of_ble_eq_true rfl, Nat.le_of_ble_eq_true rfl⟩) (p0_preS hN) rfl rfl hl.1 rfl (lv_room (Nat.le_of_ble_eq_true rfl)) dX11_parcel_16 ⟨Nat.le_of_ble_eq_true rfl, Nat.le_of_ble_eq_true rfl⟩)) (fun r4 hr4 => ?_)
      have hr4 : r4 = if 1 ≤ tn.toInt64 ∧ tn.toInt64 ≤ 1000 then 1 else 0 := hr4
      have hr4 := hr4.trans (in_w _ 1 1000 (by decide) (by decide))
      refine lv_if_eq (tgt := 34) hx hb dX11_parcel_19 (by decide) (fun c5 => ?_) (fun c5 => ?_)
      · skip
        have c5 := (fa_bool_prop hr4).1.mp c5
        refine lv_bipush (v := (-2)) hx hb dX11_parcel_34 (by decide) ?_
        subst hQ
        exact W.iret (v := (-2)) hx hb hr (fun t ht hW => ⟨⟨(-2), zr, rfl, ⟨hI, (Or.inr (Or.inl ⟨jt, rfl, hjt, c5, rfl, rfl⟩))⟩, (by rw [ht]; exact hP0), va_K.moved hW.alike hK, hD0⟩, (by rw [ht]; exact Nat.le_refl _), fun q _ _ => by rw [ht]⟩) (fun q h => absurd h List.not_mem_nil) dX11_parcel_36
      · skip
        have c5 := (fa_bool_prop hr4).2.mp c5
        refine lv_iload_n hx hb dX11_parcel_22 rfl (lv_at hl 3 rfl) ?_
        refine lv_i2l (v := gd.toInt64) hx hb dX11_parcel_23 rfl ?_
        refine lv_lconst (v := 0) hx hb dX11_parcel_24 (by decide) ?_
        refine lv_ldc2 (v := 1000) hx hb hown (hts (.constantLong RX11 133 (1000)) (List.mem_of_getElem? (i := 1) rfl)) dX11_parcel_25 ?_
        refine vp_callSi (va_Run.run (va_runS (As := [.long gd.toInt64, .long 0, .long 1000]) (rest := []) ⟨hx, hb, hml, hown, hts⟩ (c_X11_in l gd.toInt64 0 1000 ) (va_cwS 3 hts gX11_parcel_X11_in rfl rfl rfl (by decide +kernel) ⟨Nat.le_of_ble_eq_true rfl, Nat.le_of_ble_eq_true rfl⟩) (p0_preS hN) rfl rfl hl.1 rfl (lv_room (Nat.le_of_ble_eq_true rfl)) dX11_parcel_28 ⟨Nat.le_of_ble_eq_true rfl, Nat.le_of_ble_eq_true rfl⟩)) (fun r6 hr6 => ?_)
        have hr6 : r6 = if 0 ≤ gd.toInt64 ∧ gd.toInt64 ≤ 1000 then 1 else 0 := hr6
        have hr6 := hr6.trans (in_w _ 0 1000 (by decide) (by decide))
        refine lv_if_ne (tgt := 37) hx hb dX11_parcel_31 (by decide) (fun c7 => ?_) (fun c7 => ?_)
        · skip
          have c7 := (fa_bool_prop hr6).2.mp c7
          refine lv_aload_n hx hb dX11_parcel_37 rfl (lv_at hl 0 rfl) ?_
          refine va_get (D := (dC, dI)) (ci := 11) (v := .ref (ad 28)) (C := RX11) (T := TX11) (N := 39) hx hb hts hiX11 hown hK hP 0 rfl rfl 28 (by decide) (hts (.fieldLink RX11 65 "TributePitchesModel" "isSettled" "[Z") (List.mem_of_getElem? (i := 2) rfl)) (fun _ h9 => h9) rfl dX11_parcel_38 ?_
          refine lv_iload_n hx hb dX11_parcel_41 rfl (lv_at hl 1 rfl) ?_
          refine va_zald hx hb hK hP 19 2 rfl rfl (vp_in_nI (by omega) (by omega)) dX11_parcel_42 ?_
          refine lv_topi (fun v8 ev8 => ?_)
          have ev8 : v8 = (rs_I zr 28) jt := by rw [ev8]; rw [nI_clamp (by omega)]
          subst ev8
          refine lv_if_eq (tgt := 49) hx hb dX11_parcel_43 (by decide) (fun c9 => ?_) (fun c9 => ?_)
          · skip
            refine lv_aload_n hx hb dX11_parcel_49 rfl (lv_at hl 0 rfl) ?_
            refine va_get (D := (dC, dI)) (ci := 11) (v := .int (nI (rs_n zr 3))) (C := RX11) (T := TX11) (N := 39) hx hb hts hiX11 hown hK hP 0 rfl rfl 34 (by decide) (hts (.fieldLink RX11 217 "TributePitchesModel" "parcels" "I") (List.mem_of_getElem? (i := 3) rfl)) (fun _ h9 => h9) rfl dX11_parcel_50 ?_
            refine lv_bipush (v := 80) hx hb dX11_parcel_53 (by decide) ?_
            refine lv_icmp_ne (tgt := 61) hx hb dX11_parcel_55 (by decide) (fun c10 => ?_) (fun c10 => ?_)
            · skip
              have hk8 : rs_n zr 3 < 80 := (by have q : ¬ rs_n zr 3 = 80 := fun q => c10 (by rw [q]; rfl); omega)
              refine lv_aload_n hx hb dX11_parcel_61 rfl (lv_at hl 0 rfl) ?_
              refine va_get (D := (dC, dI)) (ci := 11) (v := .ref (ad 35)) (C := RX11) (T := TX11) (N := 39) hx hb hts hiX11 hown hK hP 0 rfl rfl 35 (by decide) (hts (.fieldLink RX11 84 "TributePitchesModel" "parcelTake" "[I") (List.mem_of_getElem? (i := 4) rfl)) (fun _ h9 => h9) rfl dX11_parcel_62 ?_
              refine lv_aload_n hx hb dX11_parcel_65 rfl (lv_at hl 0 rfl) ?_
              refine va_get (D := (dC, dI)) (ci := 11) (v := .int (nI (rs_n zr 3))) (C := RX11) (T := TX11) (N := 39) hx hb hts hiX11 hown hK hP 0 rfl rfl 34 (by decide) (hts (.fieldLink RX11 217 "TributePitchesModel" "parcels" "I") (List.mem_of_getElem? (i := 3) rfl)) (fun _ h9 => h9) rfl dX11_parcel_66 ?_
              refine lv_iload_n hx hb dX11_parcel_69 rfl (lv_at hl 1 rfl) ?_
              refine va_iast hx hb hK hP hD hS 25 0 rfl rfl (vp_in_nI (by omega) (by omega)) dX11_parcel_70 (fun H locs hP hD hS => ?_)
              rw [nI_clamp (n := (rs_n zr 3)) (by omega)] at hP hD
              have hP : va_P (dC, dI) vwCl [rcO qm ad zr, rcI cI ad zr 2 48, rcI cI ad zr 3 48, rcI cI ad zr 4 48, rcI cI ad zr 5 48, rcI cI ad zr 7 4, rcI cI ad zr 8 4, rcI cI ad zr 9 192, rcI cI ad zr 10 48, rcI cI ad zr 12 12, rcI cI ad zr 13 12, rcI cI ad zr 14 12, rcI cI ad zr 15 12, rcI cI ad zr 16 12, rcI cI ad zr 18 8, rcJ cJ ad zr 19 8, rcI cI ad zr 25 40, rcI cI ad zr 26 40, rcI cI ad zr 27 40, rcI cZ ad zr 28 40, rcJ cJ ad zr 29 40, rcJ cJ ad zr 30 40, rcJ cJ ad zr 31 40, rcJ cJ ad zr 32 40, rcJ cJ ad zr 33 40, (ad 35, .inl (cI, 80, .inl (upd (rs_I zr 35) (rs_n zr 3) (nI jt)))), rcI cI ad zr 36 80, rcI cI ad zr 37 80] H := hP
              have hD : va_D _ [rcO qm ad zr, rcI cI ad zr 2 48, rcI cI ad zr 3 48, rcI cI ad zr 4 48, rcI cI ad zr 5 48, rcI cI ad zr 7 4, rcI cI ad zr 8 4, rcI cI ad zr 9 192, rcI cI ad zr 10 48, rcI cI ad zr 12 12, rcI cI ad zr 13 12, rcI cI ad zr 14 12, rcI cI ad zr 15 12, rcI cI ad zr 16 12, rcI cI ad zr 18 8, rcJ cJ ad zr 19 8, rcI cI ad zr 25 40, rcI cI ad zr 26 40, rcI cI ad zr 27 40, rcI cZ ad zr 28 40, rcJ cJ ad zr 29 40, rcJ cJ ad zr 30 40, rcJ cJ ad zr 31 40, rcJ cJ ad zr 32 40, rcJ cJ ad zr 33 40, (ad 35, .inl (cI, 80, .inl (upd (rs_I zr 35) (rs_n zr 3) (nI jt)))), rcI cI ad zr 36 80, rcI cI ad zr 37 80] := hD
              refine lv_aload_n hx hb dX11_parcel_71 rfl (lv_at hl 0 rfl) ?_
              refine va_get (D := (dC, dI)) (ci := 11) (v := .ref (ad 36)) (C := RX11) (T := TX11) (N := 39) hx hb hts hiX11 hown hK hP 0 rfl rfl 36 (by decide) (hts (.fieldLink RX11 87 "TributePitchesModel" "parcelTons" "[I") (List.mem_of_getElem? (i := 5) rfl)) (fun _ h9 => h9) rfl dX11_parcel_72 ?_
              refine lv_aload_n hx hb dX11_parcel_75 rfl (lv_at hl 0 rfl) ?_
              refine va_get (D := (dC, dI)) (ci := 11) (v := .int (nI (rs_n zr 3))) (C := RX11) (T := TX11) (N := 39) hx hb hts hiX11 hown hK hP 0 rfl rfl 34 (by decide) (hts (.fieldLink RX11 217 "TributePitchesModel" "parcels" "I") (List.mem_of_getElem? (i := 3) rfl)) (fun _ h9 => h9) rfl dX11_parcel_76 ?_
              refine lv_iload_n hx hb dX11_parcel_79 rfl (lv_at hl 2 rfl) ?_
              refine va_iast hx hb hK hP hD hS 26 0 rfl rfl (vp_in_nI (by omega) (by omega)) dX11_parcel_80 (fun H locs hP hD hS => ?_)
              rw [nI_clamp (n := (rs_n zr 3)) (by omega)] at hP hD
              have hP : va_P (dC, dI) vwCl [rcO qm ad zr, rcI cI ad zr 2 48, rcI cI ad zr 3 48, rcI cI ad zr 4 48, rcI cI ad zr 5 48, rcI cI ad zr 7 4, rcI cI ad zr 8 4, rcI cI ad zr 9 192, rcI cI ad zr 10 48, rcI cI ad zr 12 12, rcI cI ad zr 13 12, rcI cI ad zr 14 12, rcI cI ad zr 15 12, rcI cI ad zr 16 12, rcI cI ad zr 18 8, rcJ cJ ad zr 19 8, rcI cI ad zr 25 40, rcI cI ad zr 26 40, rcI cI ad zr 27 40, rcI cZ ad zr 28 40, rcJ cJ ad zr 29 40, rcJ cJ ad zr 30 40, rcJ cJ ad zr 31 40, rcJ cJ ad zr 32 40, rcJ cJ ad zr 33 40, (ad 35, .inl (cI, 80, .inl (upd (rs_I zr 35) (rs_n zr 3) (nI jt)))), (ad 36, .inl (cI, 80, .inl (upd (rs_I zr 36) (rs_n zr 3) tn))), rcI cI ad zr 37 80] H := hP
              have hD : va_D _ [rcO qm ad zr, rcI cI ad zr 2 48, rcI cI ad zr 3 48, rcI cI ad zr 4 48, rcI cI ad zr 5 48, rcI cI ad zr 7 4, rcI cI ad zr 8 4, rcI cI ad zr 9 192, rcI cI ad zr 10 48, rcI cI ad zr 12 12, rcI cI ad zr 13 12, rcI cI ad zr 14 12, rcI cI ad zr 15 12, rcI cI ad zr 16 12, rcI cI ad zr 18 8, rcJ cJ ad zr 19 8, rcI cI ad zr 25 40, rcI cI ad zr 26 40, rcI cI ad zr 27 40, rcI cZ ad zr 28 40, rcJ cJ ad zr 29 40, rcJ cJ ad zr 30 40, rcJ cJ ad zr 31 40, rcJ cJ ad zr 32 40, rcJ cJ ad zr 33 40, (ad 35, .inl (cI, 80, .inl (upd (rs_I zr 35) (rs_n zr 3) (nI jt)))), (ad 36, .inl (cI, 80, .inl (upd (rs_I zr 36) (rs_n zr 3) tn))), rcI cI ad zr 37 80] := hD
              refine lv_aload_n hx hb dX11_parcel_81 rfl (lv_at hl 0 rfl) ?_
              refine va_get (D := (dC, dI)) (ci := 11) (v := .ref (ad 37)) (C := RX11) (T := TX11) (N := 39) hx hb hts hiX11 hown hK hP 0 rfl rfl 37 (by decide) (hts (.fieldLink RX11 90 "TributePitchesModel" "parcelGood" "[I") (List.mem_of_getElem? (i := 6) rfl)) (fun _ h9 => h9) rfl dX11_parcel_82 ?_
              refine lv_aload_n hx hb dX11_parcel_85 rfl (lv_at hl 0 rfl) ?_
              refine va_get (D := (dC, dI)) (ci := 11) (v := .int (nI (rs_n zr 3))) (C := RX11) (T := TX11) (N := 39) hx hb hts hiX11 hown hK hP 0 rfl rfl 34 (by decide) (hts (.fieldLink RX11 217 "TributePitchesModel" "parcels" "I") (List.mem_of_getElem? (i := 3) rfl)) (fun _ h9 => h9) rfl dX11_parcel_86 ?_
              refine lv_iload_n hx hb dX11_parcel_89 rfl (lv_at hl 3 rfl) ?_
              refine va_iast hx hb hK hP hD hS 27 0 rfl rfl (vp_in_nI (by omega) (by omega)) dX11_parcel_90 (fun H locs hP hD hS => ?_)
              rw [nI_clamp (n := (rs_n zr 3)) (by omega)] at hP hD
              have hP : va_P (dC, dI) vwCl [rcO qm ad zr, rcI cI ad zr 2 48, rcI cI ad zr 3 48, rcI cI ad zr 4 48, rcI cI ad zr 5 48, rcI cI ad zr 7 4, rcI cI ad zr 8 4, rcI cI ad zr 9 192, rcI cI ad zr 10 48, rcI cI ad zr 12 12, rcI cI ad zr 13 12, rcI cI ad zr 14 12, rcI cI ad zr 15 12, rcI cI ad zr 16 12, rcI cI ad zr 18 8, rcJ cJ ad zr 19 8, rcI cI ad zr 25 40, rcI cI ad zr 26 40, rcI cI ad zr 27 40, rcI cZ ad zr 28 40, rcJ cJ ad zr 29 40, rcJ cJ ad zr 30 40, rcJ cJ ad zr 31 40, rcJ cJ ad zr 32 40, rcJ cJ ad zr 33 40, (ad 35, .inl (cI, 80, .inl (upd (rs_I zr 35) (rs_n zr 3) (nI jt)))), (ad 36, .inl (cI, 80, .inl (upd (rs_I zr 36) (rs_n zr 3) tn))), (ad 37, .inl (cI, 80, .inl (upd (rs_I zr 37) (rs_n zr 3) gd)))] H := hP
              have hD : va_D _ [rcO qm ad zr, rcI cI ad zr 2 48, rcI cI ad zr 3 48, rcI cI ad zr 4 48, rcI cI ad zr 5 48, rcI cI ad zr 7 4, rcI cI ad zr 8 4, rcI cI ad zr 9 192, rcI cI ad zr 10 48, rcI cI ad zr 12 12, rcI cI ad zr 13 12, rcI cI ad zr 14 12, rcI cI ad zr 15 12, rcI cI ad zr 16 12, rcI cI ad zr 18 8, rcJ cJ ad zr 19 8, rcI cI ad zr 25 40, rcI cI ad zr 26 40, rcI cI ad zr 27 40, rcI cZ ad zr 28 40, rcJ cJ ad zr 29 40, rcJ cJ ad zr 30 40, rcJ cJ ad zr 31 40, rcJ cJ ad zr 32 40, rcJ cJ ad zr 33 40, (ad 35, .inl (cI, 80, .inl (upd (rs_I zr 35) (rs_n zr 3) (nI jt)))), (ad 36, .inl (cI, 80, .inl (upd (rs_I zr 36) (rs_n zr 3) tn))), (ad 37, .inl (cI, 80, .inl (upd (rs_I zr 37) (rs_n zr 3) gd)))] := hD
              refine lv_aload_n hx hb dX11_parcel_91 rfl (lv_at hl 0 rfl) ?_
              refine lv_dup hx hb dX11_parcel_92 rfl ?_
              refine va_get (D := (dC, dI)) (ci := 11) (v := .int (nI (rs_n zr 3))) (C := RX11) (T := TX11) (N := 39) hx hb hts hiX11 hown hK hP 0 rfl rfl 34 (by decide) (hts (.fieldLink RX11 217 "TributePitchesModel" "parcels" "I") (List.mem_of_getElem? (i := 3) rfl)) (fun _ h9 => h9) rfl dX11_parcel_93 ?_
              refine lv_iconst (v := 1) hx hb dX11_parcel_96 (by decide) ?_
              refine lv_iadd hx hb dX11_parcel_97 ?_
              refine lv_topi (fun vq evq => ?_)
              have evq : vq = nI (rs_n zr 3 + 1) := by rw [evq]; exact nI_1 _
              subst evq
              refine va_put (D := (dC, dI)) (ci := 11) (v := .int (nI (rs_n zr 3 + 1))) (ty := .int) (C := RX11) (T := TX11) (N := 39) hx hb hts hiX11 tyX11 tyX11_ok nmX11 hown hK hP hD hS 0 rfl rfl 34 (by decide) (hts (.fieldLink RX11 217 "TributePitchesModel" "parcels" "I") (List.mem_of_getElem? (i := 3) rfl)) (fun _ h9 => h9) rfl (by decide +kernel) rfl rfl (Nat.le_of_ble_eq_true rfl) dX11_parcel_98 (fun H locs hP hD hS => ?_)
              have hP : va_P (dC, dI) vwCl [(qm, .inr (11, [.int (rs_i zr 0), .int (rs_i zr 1), .ref (ad 2), .ref (ad 3), .ref (ad 4), .ref (ad 5), .int (rs_i zr 6), .ref (ad 7), .ref (ad 8), .ref (ad 9), .ref (ad 10), .int (nI (rs_n zr 0)), .ref (ad 12), .ref (ad 13), .ref (ad 14), .ref (ad 15), .ref (ad 16), .int (nI (rs_n zr 1)), .ref (ad 18), .ref (ad 19), .int (rs_i zr 20), .int (rs_i zr 21), .int (rs_i zr 22), .int (rs_i zr 23), .int (nI (rs_n zr 2)), .ref (ad 25), .ref (ad 26), .ref (ad 27), .ref (ad 28), .ref (ad 29), .ref (ad 30), .ref (ad 31), .ref (ad 32), .ref (ad 33), .int (nI (rs_n zr 3 + 1)), .ref (ad 35), .ref (ad 36), .ref (ad 37), .int (rs_i zr 38)])), rcI cI ad zr 2 48, rcI cI ad zr 3 48, rcI cI ad zr 4 48, rcI cI ad zr 5 48, rcI cI ad zr 7 4, rcI cI ad zr 8 4, rcI cI ad zr 9 192, rcI cI ad zr 10 48, rcI cI ad zr 12 12, rcI cI ad zr 13 12, rcI cI ad zr 14 12, rcI cI ad zr 15 12, rcI cI ad zr 16 12, rcI cI ad zr 18 8, rcJ cJ ad zr 19 8, rcI cI ad zr 25 40, rcI cI ad zr 26 40, rcI cI ad zr 27 40, rcI cZ ad zr 28 40, rcJ cJ ad zr 29 40, rcJ cJ ad zr 30 40, rcJ cJ ad zr 31 40, rcJ cJ ad zr 32 40, rcJ cJ ad zr 33 40, (ad 35, .inl (cI, 80, .inl (upd (rs_I zr 35) (rs_n zr 3) (nI jt)))), (ad 36, .inl (cI, 80, .inl (upd (rs_I zr 36) (rs_n zr 3) tn))), (ad 37, .inl (cI, 80, .inl (upd (rs_I zr 37) (rs_n zr 3) gd)))] H := hP
              have hD : va_D _ [(qm, .inr (11, [.int (rs_i zr 0), .int (rs_i zr 1), .ref (ad 2), .ref (ad 3), .ref (ad 4), .ref (ad 5), .int (rs_i zr 6), .ref (ad 7), .ref (ad 8), .ref (ad 9), .ref (ad 10), .int (nI (rs_n zr 0)), .ref (ad 12), .ref (ad 13), .ref (ad 14), .ref (ad 15), .ref (ad 16), .int (nI (rs_n zr 1)), .ref (ad 18), .ref (ad 19), .int (rs_i zr 20), .int (rs_i zr 21), .int (rs_i zr 22), .int (rs_i zr 23), .int (nI (rs_n zr 2)), .ref (ad 25), .ref (ad 26), .ref (ad 27), .ref (ad 28), .ref (ad 29), .ref (ad 30), .ref (ad 31), .ref (ad 32), .ref (ad 33), .int (nI (rs_n zr 3 + 1)), .ref (ad 35), .ref (ad 36), .ref (ad 37), .int (rs_i zr 38)])), rcI cI ad zr 2 48, rcI cI ad zr 3 48, rcI cI ad zr 4 48, rcI cI ad zr 5 48, rcI cI ad zr 7 4, rcI cI ad zr 8 4, rcI cI ad zr 9 192, rcI cI ad zr 10 48, rcI cI ad zr 12 12, rcI cI ad zr 13 12, rcI cI ad zr 14 12, rcI cI ad zr 15 12, rcI cI ad zr 16 12, rcI cI ad zr 18 8, rcJ cJ ad zr 19 8, rcI cI ad zr 25 40, rcI cI ad zr 26 40, rcI cI ad zr 27 40, rcI cZ ad zr 28 40, rcJ cJ ad zr 29 40, rcJ cJ ad zr 30 40, rcJ cJ ad zr 31 40, rcJ cJ ad zr 32 40, rcJ cJ ad zr 33 40, (ad 35, .inl (cI, 80, .inl (upd (rs_I zr 35) (rs_n zr 3) (nI jt)))), (ad 36, .inl (cI, 80, .inl (upd (rs_I zr 36) (rs_n zr 3) tn))), (ad 37, .inl (cI, 80, .inl (upd (rs_I zr 37) (rs_n zr 3) gd)))] := hD
              refine lv_aload_n hx hb dX11_parcel_101 rfl (lv_at hl 0 rfl) ?_
              refine va_get (D := (dC, dI)) (ci := 11) (v := .int (nI (rs_n zr 3 + 1))) (C := RX11) (T := TX11) (N := 39) hx hb hts hiX11 hown hK hP 0 rfl rfl 34 (by decide) (hts (.fieldLink RX11 217 "TributePitchesModel" "parcels" "I") (List.mem_of_getElem? (i := 3) rfl)) (fun _ h9 => h9) rfl dX11_parcel_102 ?_
              refine lv_iconst (v := 1) hx hb dX11_parcel_105 (by decide) ?_
              refine lv_isub hx hb dX11_parcel_106 ?_
              refine lv_topi (fun vw evw => ?_)
              have evw : vw = nI (rs_n zr 3) := by rw [evw]; exact nI_pred _
              subst evw
              subst hQ
              have hlf := lr_parcel_2 qm cI cJ cZ ad zr tn gd jt hjt c5 c7 c9 c10 hk8 hI
              have hP9 : va_P (dC, dI) vwCl (rW qm cI cJ cZ ad (rs_i zr, va_up (rs_n zr) 3 (rs_n zr 3 + 1), va_up (va_up (va_up (rs_I zr) 35 (upd (rs_I zr 35) (rs_n zr 3) (nI jt))) 36 (upd (rs_I zr 36) (rs_n zr 3) tn)) 37 (upd (rs_I zr 37) (rs_n zr 3) gd), rs_L zr)) H := by rw [hlf.2]; exact hP.sub [0, 1, 2, 3, 4, 5, 6, 7, 8, 9, 10, 11, 12, 13, 14, 15, 16, 17, 18, 19, 20, 21, 22, 23, 24, 25, 26, 27] rfl
              have hD9 : va_D (va_A (rW qm cI cJ cZ ad zr) s.heap.size) (rW qm cI cJ cZ ad (rs_i zr, va_up (rs_n zr) 3 (rs_n zr 3 + 1), va_up (va_up (va_up (rs_I zr) 35 (upd (rs_I zr 35) (rs_n zr 3) (nI jt))) 36 (upd (rs_I zr 36) (rs_n zr 3) tn)) 37 (upd (rs_I zr 37) (rs_n zr 3) gd), rs_L zr)) := by rw [hlf.2]; exact hD.sub [0, 1, 2, 3, 4, 5, 6, 7, 8, 9, 10, 11, 12, 13, 14, 15, 16, 17, 18, 19, 20, 21, 22, 23, 24, 25, 26, 27] (by decide) rfl
              exact W.iret (v := nI (rs_n zr 3)) hx hb hr (fun t ht hW => ⟨⟨nI (rs_n zr 3), (rs_i zr, va_up (rs_n zr) 3 (rs_n zr 3 + 1), va_up (va_up (va_up (rs_I zr) 35 (upd (rs_I zr 35) (rs_n zr 3) (nI jt))) 36 (upd (rs_I zr 36) (rs_n zr 3) tn)) 37 (upd (rs_I zr 37) (rs_n zr 3) gd), rs_L zr), rfl, ⟨hlf.1, (Or.inr (Or.inr (Or.inl ⟨jt, rfl, hjt, c5, c7, c9, c10, hk8, rfl, rfl⟩)))⟩, by rw [ht]; exact hP9, va_K.moved hW.alike hK, hD9⟩, hS.F ht⟩) hS.2.2 dX11_parcel_107
            · skip
              refine lv_bipush (v := (-4)) hx hb dX11_parcel_58 (by decide) ?_
              subst hQ
              exact W.iret (v := (-4)) hx hb hr (fun t ht hW => ⟨⟨(-4), zr, rfl, ⟨hI, (Or.inr (Or.inr (Or.inr (Or.inl ⟨jt, rfl, hjt, c5, c7, c9, c10, rfl, rfl⟩))))⟩, (by rw [ht]; exact hP0), va_K.moved hW.alike hK, hD0⟩, (by rw [ht]; exact Nat.le_refl _), fun q _ _ => by rw [ht]⟩) (fun q h => absurd h List.not_mem_nil) dX11_parcel_60
          · skip
            refine lv_bipush (v := (-3)) hx hb dX11_parcel_46 (by decide) ?_
            subst hQ
            exact W.iret (v := (-3)) hx hb hr (fun t ht hW => ⟨⟨(-3), zr, rfl, ⟨hI, (Or.inr (Or.inr (Or.inr (Or.inr (Or.inl ⟨jt, rfl, hjt, c5, c7, c9, rfl, rfl⟩)))))⟩, (by rw [ht]; exact hP0), va_K.moved hW.alike hK, hD0⟩, (by rw [ht]; exact Nat.le_refl _), fun q _ _ => by rw [ht]⟩) (fun q h => absurd h List.not_mem_nil) dX11_parcel_48
        · skip
          have c7 := (fa_bool_prop hr6).1.mp c7
          refine lv_bipush (v := (-2)) hx hb dX11_parcel_34 (by decide) ?_
          subst hQ
          exact W.iret (v := (-2)) hx hb hr (fun t ht hW => ⟨⟨(-2), zr, rfl, ⟨hI, (Or.inr (Or.inr (Or.inr (Or.inr (Or.inr ⟨jt, rfl, hjt, c5, c7, rfl, rfl⟩)))))⟩, (by rw [ht]; exact hP0), va_K.moved hW.alike hK, hD0⟩, (by rw [ht]; exact Nat.le_refl _), fun q _ _ => by rw [ht]⟩) (fun q h => absurd h List.not_mem_nil) dX11_parcel_36
    · exact absurd c3 (by decide)
def pR_spend (zr : RS2) (t : Int32) (wh : Int32) (pn : Int32) (r : Int64) (u : RS2) : Prop :=
  ((∀ j, j < rs_n zr 2 → t ≠ nI j) ∧ r = ((-9223372036854775808)) ∧ u = zr) ∨
  (∃ jt : Nat, t = nI jt ∧ (jt < rs_n zr 2) ∧ (¬ (0 ≤ wh ∧ wh ≤ 1)) ∧ r = ((-9223372036854775808)) ∧ u = zr) ∨
  (∃ jt : Nat, t = nI jt ∧ (jt < rs_n zr 2) ∧ (0 ≤ wh ∧ wh ≤ 1) ∧ (¬ (0 ≤ pn ∧ pn ≤ 100000)) ∧ r = ((-9223372036854775808)) ∧ u = zr) ∨
  (∃ jt : Nat, t = nI jt ∧ (jt < rs_n zr 2) ∧ (0 ≤ wh ∧ wh ≤ 1) ∧ (0 ≤ pn ∧ pn ≤ 100000) ∧ (((rs_I zr 28) jt) = 0) ∧ (¬ wh = 0) ∧ (¬ wh = 1) ∧ (¬ wh = 0) ∧ r = ((vp_updL (rs_L zr 32) jt (((rs_L zr 32) jt) + 0)) jt) ∧ u = (rs_i zr, rs_n zr, rs_I zr, va_up (va_up (rs_L zr) 31 (vp_updL (rs_L zr 31) jt (((rs_L zr 31) jt) + 0))) 32 (vp_updL (rs_L zr 32) jt (((rs_L zr 32) jt) + 0)))) ∨
  (∃ jt : Nat, t = nI jt ∧ (jt < rs_n zr 2) ∧ (0 ≤ wh ∧ wh ≤ 1) ∧ (0 ≤ pn ∧ pn ≤ 100000) ∧ (((rs_I zr 28) jt) = 0) ∧ (¬ wh = 0) ∧ (¬ wh = 1) ∧ (wh = 0) ∧ r = ((vp_updL (rs_L zr 31) jt (((rs_L zr 31) jt) + 0)) jt) ∧ u = (rs_i zr, rs_n zr, rs_I zr, va_up (va_up (rs_L zr) 31 (vp_updL (rs_L zr 31) jt (((rs_L zr 31) jt) + 0))) 32 (vp_updL (rs_L zr 32) jt (((rs_L zr 32) jt) + 0)))) ∨
  (∃ jt : Nat, t = nI jt ∧ (jt < rs_n zr 2) ∧ (0 ≤ wh ∧ wh ≤ 1) ∧ (0 ≤ pn ∧ pn ≤ 100000) ∧ (((rs_I zr 28) jt) = 0) ∧ (¬ wh = 0) ∧ (wh = 1) ∧ (¬ wh = 0) ∧ r = ((vp_updL (rs_L zr 32) jt (((rs_L zr 32) jt) + pn.toInt64)) jt) ∧ u = (rs_i zr, rs_n zr, rs_I zr, va_up (va_up (rs_L zr) 31 (vp_updL (rs_L zr 31) jt (((rs_L zr 31) jt) + 0))) 32 (vp_updL (rs_L zr 32) jt (((rs_L zr 32) jt) + pn.toInt64)))) ∨
  (∃ jt : Nat, t = nI jt ∧ (jt < rs_n zr 2) ∧ (0 ≤ wh ∧ wh ≤ 1) ∧ (0 ≤ pn ∧ pn ≤ 100000) ∧ (((rs_I zr 28) jt) = 0) ∧ (¬ wh = 0) ∧ (wh = 1) ∧ (wh = 0) ∧ r = ((vp_updL (rs_L zr 31) jt (((rs_L zr 31) jt) + 0)) jt) ∧ u = (rs_i zr, rs_n zr, rs_I zr, va_up (va_up (rs_L zr) 31 (vp_updL (rs_L zr 31) jt (((rs_L zr 31) jt) + 0))) 32 (vp_updL (rs_L zr 32) jt (((rs_L zr 32) jt) + pn.toInt64)))) ∨
  (∃ jt : Nat, t = nI jt ∧ (jt < rs_n zr 2) ∧ (0 ≤ wh ∧ wh ≤ 1) ∧ (0 ≤ pn ∧ pn ≤ 100000) ∧ (((rs_I zr 28) jt) = 0) ∧ (wh = 0) ∧ (¬ wh = 1) ∧ (¬ wh = 0) ∧ r = ((vp_updL (rs_L zr 32) jt (((rs_L zr 32) jt) + 0)) jt) ∧ u = (rs_i zr, rs_n zr, rs_I zr, va_up (va_up (rs_L zr) 31 (vp_updL (rs_L zr 31) jt (((rs_L zr 31) jt) + pn.toInt64))) 32 (vp_updL (rs_L zr 32) jt (((rs_L zr 32) jt) + 0)))) ∨
  (∃ jt : Nat, t = nI jt ∧ (jt < rs_n zr 2) ∧ (0 ≤ wh ∧ wh ≤ 1) ∧ (0 ≤ pn ∧ pn ≤ 100000) ∧ (((rs_I zr 28) jt) = 0) ∧ (wh = 0) ∧ (¬ wh = 1) ∧ (wh = 0) ∧ r = ((vp_updL (rs_L zr 31) jt (((rs_L zr 31) jt) + pn.toInt64)) jt) ∧ u = (rs_i zr, rs_n zr, rs_I zr, va_up (va_up (rs_L zr) 31 (vp_updL (rs_L zr 31) jt (((rs_L zr 31) jt) + pn.toInt64))) 32 (vp_updL (rs_L zr 32) jt (((rs_L zr 32) jt) + 0)))) ∨
  (∃ jt : Nat, t = nI jt ∧ (jt < rs_n zr 2) ∧ (0 ≤ wh ∧ wh ≤ 1) ∧ (0 ≤ pn ∧ pn ≤ 100000) ∧ (((rs_I zr 28) jt) = 0) ∧ (wh = 0) ∧ (wh = 1) ∧ (¬ wh = 0) ∧ r = ((vp_updL (rs_L zr 32) jt (((rs_L zr 32) jt) + pn.toInt64)) jt) ∧ u = (rs_i zr, rs_n zr, rs_I zr, va_up (va_up (rs_L zr) 31 (vp_updL (rs_L zr 31) jt (((rs_L zr 31) jt) + pn.toInt64))) 32 (vp_updL (rs_L zr 32) jt (((rs_L zr 32) jt) + pn.toInt64)))) ∨
  (∃ jt : Nat, t = nI jt ∧ (jt < rs_n zr 2) ∧ (0 ≤ wh ∧ wh ≤ 1) ∧ (0 ≤ pn ∧ pn ≤ 100000) ∧ (((rs_I zr 28) jt) = 0) ∧ (wh = 0) ∧ (wh = 1) ∧ (wh = 0) ∧ r = ((vp_updL (rs_L zr 31) jt (((rs_L zr 31) jt) + pn.toInt64)) jt) ∧ u = (rs_i zr, rs_n zr, rs_I zr, va_up (va_up (rs_L zr) 31 (vp_updL (rs_L zr 31) jt (((rs_L zr 31) jt) + pn.toInt64))) 32 (vp_updL (rs_L zr 32) jt (((rs_L zr 32) jt) + pn.toInt64)))) ∨
  (∃ jt : Nat, t = nI jt ∧ (jt < rs_n zr 2) ∧ (0 ≤ wh ∧ wh ≤ 1) ∧ (0 ≤ pn ∧ pn ≤ 100000) ∧ (¬ ((rs_I zr 28) jt) = 0) ∧ r = ((-9223372036854775808)) ∧ u = zr)
set_option maxHeartbeats 4000000 in
theorem lr_spend_3 (qm : Nat) (cI cJ cZ : ClassId) (ad : Nat → Nat) (zr : RS2) (wh : Int32) (pn : Int32) (jt : Nat) (hjt : jt < rs_n zr 2) (c6 : 0 ≤ wh ∧ wh ≤ 1) (c9 : 0 ≤ pn ∧ pn ≤ 100000) (c12 : ((rs_I zr 28) jt) = 0) (c14 : ¬ wh = 0) (c16 : ¬ wh = 1) (c17 : ¬ wh = 0) (hI : invR zr) : invR (rs_i zr, rs_n zr, rs_I zr, va_up (va_up (rs_L zr) 31 (vp_updL (rs_L zr 31) jt (((rs_L zr 31) jt) + 0))) 32 (vp_updL (rs_L zr 32) jt (((rs_L zr 32) jt) + 0))) ∧ rW qm cI cJ cZ ad (rs_i zr, rs_n zr, rs_I zr, va_up (va_up (rs_L zr) 31 (vp_updL (rs_L zr 31) jt (((rs_L zr 31) jt) + 0))) 32 (vp_updL (rs_L zr 32) jt (((rs_L zr 32) jt) + 0))) = [rcO qm ad zr, rcI cI ad zr 2 48, rcI cI ad zr 3 48, rcI cI ad zr 4 48, rcI cI ad zr 5 48, rcI cI ad zr 7 4, rcI cI ad zr 8 4, rcI cI ad zr 9 192, rcI cI ad zr 10 48, rcI cI ad zr 12 12, rcI cI ad zr 13 12, rcI cI ad zr 14 12, rcI cI ad zr 15 12, rcI cI ad zr 16 12, rcI cI ad zr 18 8, rcJ cJ ad zr 19 8, rcI cI ad zr 25 40, rcI cI ad zr 26 40, rcI cI ad zr 27 40, rcI cZ ad zr 28 40, rcJ cJ ad zr 29 40, rcJ cJ ad zr 30 40, (ad 31, .inl (cJ, 40, .inr (.inl (vp_updL (rs_L zr 31) jt (((rs_L zr 31) jt) + 0))))), (ad 32, .inl (cJ, 40, .inr (.inl (vp_updL (rs_L zr 32) jt (((rs_L zr 32) jt) + 0))))), rcJ cJ ad zr 33 40, rcI cI ad zr 35 80, rcI cI ad zr 36 80, rcI cI ad zr 37 80] := by
  obtain ⟨⟨hn0, hn1, hn2, hn3⟩, hfar, hlh, hss, hsold, htk, hpk⟩ := id hI
  exact ⟨hI, by simp [rW, rcO, rcI, rcJ, rs_i, rs_n, rs_I, rs_L, va_up, upd]⟩
set_option maxHeartbeats 4000000 in
theorem lr_spend_4 (qm : Nat) (cI cJ cZ : ClassId) (ad : Nat → Nat) (zr : RS2) (wh : Int32) (pn : Int32) (jt : Nat) (hjt : jt < rs_n zr 2) (c6 : 0 ≤ wh ∧ wh ≤ 1) (c9 : 0 ≤ pn ∧ pn ≤ 100000) (c12 : ((rs_I zr 28) jt) = 0) (c14 : ¬ wh = 0) (c16 : ¬ wh = 1) (c17 : wh = 0) (hI : invR zr) : invR (rs_i zr, rs_n zr, rs_I zr, va_up (va_up (rs_L zr) 31 (vp_updL (rs_L zr 31) jt (((rs_L zr 31) jt) + 0))) 32 (vp_updL (rs_L zr 32) jt (((rs_L zr 32) jt) + 0))) ∧ rW qm cI cJ cZ ad (rs_i zr, rs_n zr, rs_I zr, va_up (va_up (rs_L zr) 31 (vp_updL (rs_L zr 31) jt (((rs_L zr 31) jt) + 0))) 32 (vp_updL (rs_L zr 32) jt (((rs_L zr 32) jt) + 0))) = [rcO qm ad zr, rcI cI ad zr 2 48, rcI cI ad zr 3 48, rcI cI ad zr 4 48, rcI cI ad zr 5 48, rcI cI ad zr 7 4, rcI cI ad zr 8 4, rcI cI ad zr 9 192, rcI cI ad zr 10 48, rcI cI ad zr 12 12, rcI cI ad zr 13 12, rcI cI ad zr 14 12, rcI cI ad zr 15 12, rcI cI ad zr 16 12, rcI cI ad zr 18 8, rcJ cJ ad zr 19 8, rcI cI ad zr 25 40, rcI cI ad zr 26 40, rcI cI ad zr 27 40, rcI cZ ad zr 28 40, rcJ cJ ad zr 29 40, rcJ cJ ad zr 30 40, (ad 31, .inl (cJ, 40, .inr (.inl (vp_updL (rs_L zr 31) jt (((rs_L zr 31) jt) + 0))))), (ad 32, .inl (cJ, 40, .inr (.inl (vp_updL (rs_L zr 32) jt (((rs_L zr 32) jt) + 0))))), rcJ cJ ad zr 33 40, rcI cI ad zr 35 80, rcI cI ad zr 36 80, rcI cI ad zr 37 80] := by
  obtain ⟨⟨hn0, hn1, hn2, hn3⟩, hfar, hlh, hss, hsold, htk, hpk⟩ := id hI
  exact ⟨hI, by simp [rW, rcO, rcI, rcJ, rs_i, rs_n, rs_I, rs_L, va_up, upd]⟩
set_option maxHeartbeats 4000000 in
theorem lr_spend_5 (qm : Nat) (cI cJ cZ : ClassId) (ad : Nat → Nat) (zr : RS2) (wh : Int32) (pn : Int32) (jt : Nat) (hjt : jt < rs_n zr 2) (c6 : 0 ≤ wh ∧ wh ≤ 1) (c9 : 0 ≤ pn ∧ pn ≤ 100000) (c12 : ((rs_I zr 28) jt) = 0) (c14 : ¬ wh = 0) (c16 : wh = 1) (c20 : ¬ wh = 0) (hI : invR zr) : invR (rs_i zr, rs_n zr, rs_I zr, va_up (va_up (rs_L zr) 31 (vp_updL (rs_L zr 31) jt (((rs_L zr 31) jt) + 0))) 32 (vp_updL (rs_L zr 32) jt (((rs_L zr 32) jt) + pn.toInt64))) ∧ rW qm cI cJ cZ ad (rs_i zr, rs_n zr, rs_I zr, va_up (va_up (rs_L zr) 31 (vp_updL (rs_L zr 31) jt (((rs_L zr 31) jt) + 0))) 32 (vp_updL (rs_L zr 32) jt (((rs_L zr 32) jt) + pn.toInt64))) = [rcO qm ad zr, rcI cI ad zr 2 48, rcI cI ad zr 3 48, rcI cI ad zr 4 48, rcI cI ad zr 5 48, rcI cI ad zr 7 4, rcI cI ad zr 8 4, rcI cI ad zr 9 192, rcI cI ad zr 10 48, rcI cI ad zr 12 12, rcI cI ad zr 13 12, rcI cI ad zr 14 12, rcI cI ad zr 15 12, rcI cI ad zr 16 12, rcI cI ad zr 18 8, rcJ cJ ad zr 19 8, rcI cI ad zr 25 40, rcI cI ad zr 26 40, rcI cI ad zr 27 40, rcI cZ ad zr 28 40, rcJ cJ ad zr 29 40, rcJ cJ ad zr 30 40, (ad 31, .inl (cJ, 40, .inr (.inl (vp_updL (rs_L zr 31) jt (((rs_L zr 31) jt) + 0))))), (ad 32, .inl (cJ, 40, .inr (.inl (vp_updL (rs_L zr 32) jt (((rs_L zr 32) jt) + pn.toInt64))))), rcJ cJ ad zr 33 40, rcI cI ad zr 35 80, rcI cI ad zr 36 80, rcI cI ad zr 37 80] := by
  obtain ⟨⟨hn0, hn1, hn2, hn3⟩, hfar, hlh, hss, hsold, htk, hpk⟩ := id hI
  exact ⟨hI, by simp [rW, rcO, rcI, rcJ, rs_i, rs_n, rs_I, rs_L, va_up, upd]⟩
set_option maxHeartbeats 4000000 in
theorem lr_spend_6 (qm : Nat) (cI cJ cZ : ClassId) (ad : Nat → Nat) (zr : RS2) (wh : Int32) (pn : Int32) (jt : Nat) (hjt : jt < rs_n zr 2) (c6 : 0 ≤ wh ∧ wh ≤ 1) (c9 : 0 ≤ pn ∧ pn ≤ 100000) (c12 : ((rs_I zr 28) jt) = 0) (c14 : ¬ wh = 0) (c16 : wh = 1) (c20 : wh = 0) (hI : invR zr) : invR (rs_i zr, rs_n zr, rs_I zr, va_up (va_up (rs_L zr) 31 (vp_updL (rs_L zr 31) jt (((rs_L zr 31) jt) + 0))) 32 (vp_updL (rs_L zr 32) jt (((rs_L zr 32) jt) + pn.toInt64))) ∧ rW qm cI cJ cZ ad (rs_i zr, rs_n zr, rs_I zr, va_up (va_up (rs_L zr) 31 (vp_updL (rs_L zr 31) jt (((rs_L zr 31) jt) + 0))) 32 (vp_updL (rs_L zr 32) jt (((rs_L zr 32) jt) + pn.toInt64))) = [rcO qm ad zr, rcI cI ad zr 2 48, rcI cI ad zr 3 48, rcI cI ad zr 4 48, rcI cI ad zr 5 48, rcI cI ad zr 7 4, rcI cI ad zr 8 4, rcI cI ad zr 9 192, rcI cI ad zr 10 48, rcI cI ad zr 12 12, rcI cI ad zr 13 12, rcI cI ad zr 14 12, rcI cI ad zr 15 12, rcI cI ad zr 16 12, rcI cI ad zr 18 8, rcJ cJ ad zr 19 8, rcI cI ad zr 25 40, rcI cI ad zr 26 40, rcI cI ad zr 27 40, rcI cZ ad zr 28 40, rcJ cJ ad zr 29 40, rcJ cJ ad zr 30 40, (ad 31, .inl (cJ, 40, .inr (.inl (vp_updL (rs_L zr 31) jt (((rs_L zr 31) jt) + 0))))), (ad 32, .inl (cJ, 40, .inr (.inl (vp_updL (rs_L zr 32) jt (((rs_L zr 32) jt) + pn.toInt64))))), rcJ cJ ad zr 33 40, rcI cI ad zr 35 80, rcI cI ad zr 36 80, rcI cI ad zr 37 80] := by
  obtain ⟨⟨hn0, hn1, hn2, hn3⟩, hfar, hlh, hss, hsold, htk, hpk⟩ := id hI
  exact ⟨hI, by simp [rW, rcO, rcI, rcJ, rs_i, rs_n, rs_I, rs_L, va_up, upd]⟩
set_option maxHeartbeats 4000000 in
theorem lr_spend_7 (qm : Nat) (cI cJ cZ : ClassId) (ad : Nat → Nat) (zr : RS2) (wh : Int32) (pn : Int32) (jt : Nat) (hjt : jt < rs_n zr 2) (c6 : 0 ≤ wh ∧ wh ≤ 1) (c9 : 0 ≤ pn ∧ pn ≤ 100000) (c12 : ((rs_I zr 28) jt) = 0) (c14 : wh = 0) (c24 : ¬ wh = 1) (c25 : ¬ wh = 0) (hI : invR zr) : invR (rs_i zr, rs_n zr, rs_I zr, va_up (va_up (rs_L zr) 31 (vp_updL (rs_L zr 31) jt (((rs_L zr 31) jt) + pn.toInt64))) 32 (vp_updL (rs_L zr 32) jt (((rs_L zr 32) jt) + 0))) ∧ rW qm cI cJ cZ ad (rs_i zr, rs_n zr, rs_I zr, va_up (va_up (rs_L zr) 31 (vp_updL (rs_L zr 31) jt (((rs_L zr 31) jt) + pn.toInt64))) 32 (vp_updL (rs_L zr 32) jt (((rs_L zr 32) jt) + 0))) = [rcO qm ad zr, rcI cI ad zr 2 48, rcI cI ad zr 3 48, rcI cI ad zr 4 48, rcI cI ad zr 5 48, rcI cI ad zr 7 4, rcI cI ad zr 8 4, rcI cI ad zr 9 192, rcI cI ad zr 10 48, rcI cI ad zr 12 12, rcI cI ad zr 13 12, rcI cI ad zr 14 12, rcI cI ad zr 15 12, rcI cI ad zr 16 12, rcI cI ad zr 18 8, rcJ cJ ad zr 19 8, rcI cI ad zr 25 40, rcI cI ad zr 26 40, rcI cI ad zr 27 40, rcI cZ ad zr 28 40, rcJ cJ ad zr 29 40, rcJ cJ ad zr 30 40, (ad 31, .inl (cJ, 40, .inr (.inl (vp_updL (rs_L zr 31) jt (((rs_L zr 31) jt) + pn.toInt64))))), (ad 32, .inl (cJ, 40, .inr (.inl (vp_updL (rs_L zr 32) jt (((rs_L zr 32) jt) + 0))))), rcJ cJ ad zr 33 40, rcI cI ad zr 35 80, rcI cI ad zr 36 80, rcI cI ad zr 37 80] := by
  obtain ⟨⟨hn0, hn1, hn2, hn3⟩, hfar, hlh, hss, hsold, htk, hpk⟩ := id hI
  exact ⟨hI, by simp [rW, rcO, rcI, rcJ, rs_i, rs_n, rs_I, rs_L, va_up, upd]⟩
set_option maxHeartbeats 4000000 in
theorem lr_spend_8 (qm : Nat) (cI cJ cZ : ClassId) (ad : Nat → Nat) (zr : RS2) (wh : Int32) (pn : Int32) (jt : Nat) (hjt : jt < rs_n zr 2) (c6 : 0 ≤ wh ∧ wh ≤ 1) (c9 : 0 ≤ pn ∧ pn ≤ 100000) (c12 : ((rs_I zr 28) jt) = 0) (c14 : wh = 0) (c24 : ¬ wh = 1) (c25 : wh = 0) (hI : invR zr) : invR (rs_i zr, rs_n zr, rs_I zr, va_up (va_up (rs_L zr) 31 (vp_updL (rs_L zr 31) jt (((rs_L zr 31) jt) + pn.toInt64))) 32 (vp_updL (rs_L zr 32) jt (((rs_L zr 32) jt) + 0))) ∧ rW qm cI cJ cZ ad (rs_i zr, rs_n zr, rs_I zr, va_up (va_up (rs_L zr) 31 (vp_updL (rs_L zr 31) jt (((rs_L zr 31) jt) + pn.toInt64))) 32 (vp_updL (rs_L zr 32) jt (((rs_L zr 32) jt) + 0))) = [rcO qm ad zr, rcI cI ad zr 2 48, rcI cI ad zr 3 48, rcI cI ad zr 4 48, rcI cI ad zr 5 48, rcI cI ad zr 7 4, rcI cI ad zr 8 4, rcI cI ad zr 9 192, rcI cI ad zr 10 48, rcI cI ad zr 12 12, rcI cI ad zr 13 12, rcI cI ad zr 14 12, rcI cI ad zr 15 12, rcI cI ad zr 16 12, rcI cI ad zr 18 8, rcJ cJ ad zr 19 8, rcI cI ad zr 25 40, rcI cI ad zr 26 40, rcI cI ad zr 27 40, rcI cZ ad zr 28 40, rcJ cJ ad zr 29 40, rcJ cJ ad zr 30 40, (ad 31, .inl (cJ, 40, .inr (.inl (vp_updL (rs_L zr 31) jt (((rs_L zr 31) jt) + pn.toInt64))))), (ad 32, .inl (cJ, 40, .inr (.inl (vp_updL (rs_L zr 32) jt (((rs_L zr 32) jt) + 0))))), rcJ cJ ad zr 33 40, rcI cI ad zr 35 80, rcI cI ad zr 36 80, rcI cI ad zr 37 80] := by
  obtain ⟨⟨hn0, hn1, hn2, hn3⟩, hfar, hlh, hss, hsold, htk, hpk⟩ := id hI
  exact ⟨hI, by simp [rW, rcO, rcI, rcJ, rs_i, rs_n, rs_I, rs_L, va_up, upd]⟩
set_option maxHeartbeats 4000000 in
theorem lr_spend_9 (qm : Nat) (cI cJ cZ : ClassId) (ad : Nat → Nat) (zr : RS2) (wh : Int32) (pn : Int32) (jt : Nat) (hjt : jt < rs_n zr 2) (c6 : 0 ≤ wh ∧ wh ≤ 1) (c9 : 0 ≤ pn ∧ pn ≤ 100000) (c12 : ((rs_I zr 28) jt) = 0) (c14 : wh = 0) (c24 : wh = 1) (c28 : ¬ wh = 0) (hI : invR zr) : invR (rs_i zr, rs_n zr, rs_I zr, va_up (va_up (rs_L zr) 31 (vp_updL (rs_L zr 31) jt (((rs_L zr 31) jt) + pn.toInt64))) 32 (vp_updL (rs_L zr 32) jt (((rs_L zr 32) jt) + pn.toInt64))) ∧ rW qm cI cJ cZ ad (rs_i zr, rs_n zr, rs_I zr, va_up (va_up (rs_L zr) 31 (vp_updL (rs_L zr 31) jt (((rs_L zr 31) jt) + pn.toInt64))) 32 (vp_updL (rs_L zr 32) jt (((rs_L zr 32) jt) + pn.toInt64))) = [rcO qm ad zr, rcI cI ad zr 2 48, rcI cI ad zr 3 48, rcI cI ad zr 4 48, rcI cI ad zr 5 48, rcI cI ad zr 7 4, rcI cI ad zr 8 4, rcI cI ad zr 9 192, rcI cI ad zr 10 48, rcI cI ad zr 12 12, rcI cI ad zr 13 12, rcI cI ad zr 14 12, rcI cI ad zr 15 12, rcI cI ad zr 16 12, rcI cI ad zr 18 8, rcJ cJ ad zr 19 8, rcI cI ad zr 25 40, rcI cI ad zr 26 40, rcI cI ad zr 27 40, rcI cZ ad zr 28 40, rcJ cJ ad zr 29 40, rcJ cJ ad zr 30 40, (ad 31, .inl (cJ, 40, .inr (.inl (vp_updL (rs_L zr 31) jt (((rs_L zr 31) jt) + pn.toInt64))))), (ad 32, .inl (cJ, 40, .inr (.inl (vp_updL (rs_L zr 32) jt (((rs_L zr 32) jt) + pn.toInt64))))), rcJ cJ ad zr 33 40, rcI cI ad zr 35 80, rcI cI ad zr 36 80, rcI cI ad zr 37 80] := by
  obtain ⟨⟨hn0, hn1, hn2, hn3⟩, hfar, hlh, hss, hsold, htk, hpk⟩ := id hI
  exact ⟨hI, by simp [rW, rcO, rcI, rcJ, rs_i, rs_n, rs_I, rs_L, va_up, upd]⟩
set_option maxHeartbeats 4000000 in
theorem lr_spend_10 (qm : Nat) (cI cJ cZ : ClassId) (ad : Nat → Nat) (zr : RS2) (wh : Int32) (pn : Int32) (jt : Nat) (hjt : jt < rs_n zr 2) (c6 : 0 ≤ wh ∧ wh ≤ 1) (c9 : 0 ≤ pn ∧ pn ≤ 100000) (c12 : ((rs_I zr 28) jt) = 0) (c14 : wh = 0) (c24 : wh = 1) (c28 : wh = 0) (hI : invR zr) : invR (rs_i zr, rs_n zr, rs_I zr, va_up (va_up (rs_L zr) 31 (vp_updL (rs_L zr 31) jt (((rs_L zr 31) jt) + pn.toInt64))) 32 (vp_updL (rs_L zr 32) jt (((rs_L zr 32) jt) + pn.toInt64))) ∧ rW qm cI cJ cZ ad (rs_i zr, rs_n zr, rs_I zr, va_up (va_up (rs_L zr) 31 (vp_updL (rs_L zr 31) jt (((rs_L zr 31) jt) + pn.toInt64))) 32 (vp_updL (rs_L zr 32) jt (((rs_L zr 32) jt) + pn.toInt64))) = [rcO qm ad zr, rcI cI ad zr 2 48, rcI cI ad zr 3 48, rcI cI ad zr 4 48, rcI cI ad zr 5 48, rcI cI ad zr 7 4, rcI cI ad zr 8 4, rcI cI ad zr 9 192, rcI cI ad zr 10 48, rcI cI ad zr 12 12, rcI cI ad zr 13 12, rcI cI ad zr 14 12, rcI cI ad zr 15 12, rcI cI ad zr 16 12, rcI cI ad zr 18 8, rcJ cJ ad zr 19 8, rcI cI ad zr 25 40, rcI cI ad zr 26 40, rcI cI ad zr 27 40, rcI cZ ad zr 28 40, rcJ cJ ad zr 29 40, rcJ cJ ad zr 30 40, (ad 31, .inl (cJ, 40, .inr (.inl (vp_updL (rs_L zr 31) jt (((rs_L zr 31) jt) + pn.toInt64))))), (ad 32, .inl (cJ, 40, .inr (.inl (vp_updL (rs_L zr 32) jt (((rs_L zr 32) jt) + pn.toInt64))))), rcJ cJ ad zr 33 40, rcI cI ad zr 35 80, rcI cI ad zr 36 80, rcI cI ad zr 37 80] := by
  obtain ⟨⟨hn0, hn1, hn2, hn3⟩, hfar, hlh, hss, hsold, htk, hpk⟩ := id hI
  exact ⟨hI, by simp [rW, rcO, rcI, rcJ, rs_i, rs_n, rs_I, rs_L, va_up, upd]⟩
set_option maxHeartbeats 4000000 in
set_option maxRecDepth 100000 in
theorem M_spend (l : Launch) (dC : Nat → ClassId) (dI : Nat → Nat → Nat) (cI cJ cZ : ClassId) (sz : Nat) (qm : Nat) (ad : Nat → Nat) (zr : RS2) (t : Int32) (wh : Int32) (pn : Int32) (hI : invR zr) : Met l yX11_spend wsX11_spend ({ frames := 3, cells := 0, slots := 0, locals := 90 }) (pw (dC, dI) [(cI, .int), (cJ, .long), (cZ, .boolean)] (rW qm cI cJ cZ ad zr) sz [.ref qm, .int t, .int wh, .int pn]) (va_Ql (fun r (u : RS2) => invR u ∧ pR_spend zr t wh pn r u) (fun u t => bw (dC, dI) [(cI, .int), (cJ, .long), (cZ, .boolean)] (va_A (rW qm cI cJ cZ ad zr) sz) (rW qm cI cJ cZ ad u) t) (va_A (rW qm cI cJ cZ ad zr) sz)) 0 0 (va_A (rW qm cI cJ cZ ad zr) sz) := by
  refine pw_met (cc := cX11_spend) (maxL := 4) (ret := (some .long)) (by decide) rfl (Nat.le_of_ble_eq_true rfl) ?_
  intro p e s m below meth c0 hx hb hr hml hown hlocks hnm hts hP0 hK hD0 hN hsz hA hS ls hl
  subst hsz
  have hP : va_P (dC, dI) vwCl [rcO qm ad zr, rcI cI ad zr 2 48, rcI cI ad zr 3 48, rcI cI ad zr 4 48, rcI cI ad zr 5 48, rcI cI ad zr 7 4, rcI cI ad zr 8 4, rcI cI ad zr 9 192, rcI cI ad zr 10 48, rcI cI ad zr 12 12, rcI cI ad zr 13 12, rcI cI ad zr 14 12, rcI cI ad zr 15 12, rcI cI ad zr 16 12, rcI cI ad zr 18 8, rcJ cJ ad zr 19 8, rcI cI ad zr 25 40, rcI cI ad zr 26 40, rcI cI ad zr 27 40, rcI cZ ad zr 28 40, rcJ cJ ad zr 29 40, rcJ cJ ad zr 30 40, rcJ cJ ad zr 31 40, rcJ cJ ad zr 32 40, rcJ cJ ad zr 33 40, rcI cI ad zr 35 80, rcI cI ad zr 36 80, rcI cI ad zr 37 80] s.heap := hP0
  have hD : va_D (va_A (rW qm cI cJ cZ ad zr) s.heap.size) [rcO qm ad zr, rcI cI ad zr 2 48, rcI cI ad zr 3 48, rcI cI ad zr 4 48, rcI cI ad zr 5 48, rcI cI ad zr 7 4, rcI cI ad zr 8 4, rcI cI ad zr 9 192, rcI cI ad zr 10 48, rcI cI ad zr 12 12, rcI cI ad zr 13 12, rcI cI ad zr 14 12, rcI cI ad zr 15 12, rcI cI ad zr 16 12, rcI cI ad zr 18 8, rcJ cJ ad zr 19 8, rcI cI ad zr 25 40, rcI cI ad zr 26 40, rcI cI ad zr 27 40, rcI cZ ad zr 28 40, rcJ cJ ad zr 29 40, rcJ cJ ad zr 30 40, rcJ cJ ad zr 31 40, rcJ cJ ad zr 32 40, rcJ cJ ad zr 33 40, rcI cI ad zr 35 80, rcI cI ad zr 36 80, rcI cI ad zr 37 80] := hD0
  obtain ⟨⟨hn0, hn1, hn2, hn3⟩, hfar, hlh, hss, hsold, htk, hpk⟩ := id hI
  have hl : lv_has ls 4 [(0, .ref qm), (1, .int t), (2, .int wh), (3, .int pn)] := hl
  have hiX11 : ∀ w ∈ wsX110, w ∈ wsX11_spend := fun _ h => List.mem_cons_of_mem _ (List.mem_append_right _ (h))
  generalize hQ : MQ _ _ _ _ _ _ _ = Q
  refine lv_aload_n hx hb dX11_spend_0 rfl (lv_at hl 0 rfl) ?_
  refine lv_iload_n hx hb dX11_spend_1 rfl (lv_at hl 1 rfl) ?_
  have hPc := hP.sub (ws' := [rcO qm ad zr]) [0] rfl
  have hDc := hD.sub (ws' := [rcO qm ad zr]) [0] (by decide) rfl
  have hKc := hK.sub (tys' := []) [] rfl
  refine vp_callSi (va_Run.run (va_runV (As := [.int t]) (rest := []) ⟨hx, hb, hml, hown, hts⟩ (r_X11_noTake l dC dI  _ qm (.int (rs_i zr 0)) (.int (rs_i zr 1)) (.ref (ad 2)) (.ref (ad 3)) (.ref (ad 4)) (.ref (ad 5)) (.int (rs_i zr 6)) (.ref (ad 7)) (.ref (ad 8)) (.ref (ad 9)) (.ref (ad 10)) (.int (nI (rs_n zr 0))) (.ref (ad 12)) (.ref (ad 13)) (.ref (ad 14)) (.ref (ad 15)) (.ref (ad 16)) (.int (nI (rs_n zr 1))) (.ref (ad 18)) (.ref (ad 19)) (.int (rs_i zr 20)) (.int (rs_i zr 21)) (.int (rs_i zr 22)) (.int (rs_i zr 23)) (.ref (ad 25)) (.ref (ad 26)) (.ref (ad 27)) (.ref (ad 28)) (.ref (ad 29)) (.ref (ad 30)) (.ref (ad 31)) (.ref (ad 32)) (.ref (ad 33)) (.int (nI (rs_n zr 3))) (.ref (ad 35)) (.ref (ad 36)) (.ref (ad 37)) (.int (rs_i zr 38)) (nI (rs_n zr 2)) t (rs_n zr 2) rfl (by omega)) (cwV 1 hts gX11_spend_X11_noTake rfl rfl rfl (by decide +kernel) ⟨Nat.le_of_ble_eq_true rfl, Nat.le_of_ble_eq_true rfl⟩) (pw_preV (va_recv hKc hPc (ci := 11) (q0 := 0) rfl rfl) hPc hKc hDc hN) rfl rfl hl.1 rfl (lv_room (Nat.le_of_ble_eq_true rfl)) dX11_spend_2 ⟨Nat.le_of_ble_eq_true rfl, Nat.le_of_ble_eq_true rfl⟩)) (fun r1 hr1 => ?_)
  have hr1 : (r1 = 1 ∧ ∀ j, j < (rs_n zr 2) → t ≠ nI j) ∨ (r1 = 0 ∧ ∃ j, j < (rs_n zr 2) ∧ t = nI j) := hr1
  rcases hr1 with ⟨er1, hnojt⟩ | ⟨er1, jt, hjt, egjt⟩
  · subst er1
    refine lv_if_ne (tgt := 39) hx hb dX11_spend_5 (by decide) (fun c2 => ?_) (fun c2 => ?_)
    · skip
      refine vp_callSl (va_Run.run (va_runS (As := []) (rest := []) ⟨hx, hb, hml, hown, hts⟩ (c_X11_lost l  ) (va_cwS 0 hts gX11_spend_X11_lost rfl rfl rfl (by decide +kernel) ⟨Nat.le_of_ble_eq_true rfl, Nat.le_of_ble_eq_true rfl⟩) (p0_preS hN) rfl rfl hl.1 rfl (lv_room (Nat.le_of_ble_eq_true rfl)) dX11_spend_39 ⟨Nat.le_of_ble_eq_true rfl, Nat.le_of_ble_eq_true rfl⟩)) (fun r3 hr3 => ?_)
      have hr3 : r3 = (-9223372036854775808) := hr3
      subst hr3
      subst hQ
      exact W.lret (v := (-9223372036854775808)) hx hb hr (fun t ht hW => ⟨⟨(-9223372036854775808), zr, rfl, ⟨hI, (Or.inl ⟨hnojt, rfl, rfl⟩)⟩, (by rw [ht]; exact hP0), va_K.moved hW.alike hK, hD0⟩, (by rw [ht]; exact Nat.le_refl _), fun q _ _ => by rw [ht]⟩) (fun q h => absurd h List.not_mem_nil) dX11_spend_42
    · exact absurd c2 (by decide)
  · subst er1
    subst egjt
    refine lv_if_ne (tgt := 39) hx hb dX11_spend_5 (by decide) (fun c4 => ?_) (fun c4 => ?_)
    · exact absurd c4 (by decide)
    · skip
      refine lv_iload_n hx hb dX11_spend_8 rfl (lv_at hl 2 rfl) ?_
      refine lv_i2l (v := wh.toInt64) hx hb dX11_spend_9 rfl ?_
      refine lv_lconst (v := 0) hx hb dX11_spend_10 (by decide) ?_
      refine lv_lconst (v := 1) hx hb dX11_spend_11 (by decide) ?_
      refine vp_callSi (va_Run.run (va_runS (As := [.long wh.toInt64, .long 0, .long 1]) (rest := []) ⟨hx, hb, hml, hown, hts⟩ (c_X11_in l wh.toInt64 0 1 ) (va_cwS 3 hts gX11_spend_X11_in rfl rfl rfl (by decide +kernel) ⟨Nat.le_of_ble_eq_true rfl, Nat.le_of_ble_eq_true rfl⟩) (p0_preS hN) rfl rfl hl.1 rfl (lv_room (Nat.le_of_ble_eq_true rfl)) dX11_spend_12 ⟨Nat.le_of_ble_eq_true rfl, Nat.le_of_ble_eq_true rfl⟩)) (fun r5 hr5 => ?_)
      have hr5 : r5 = if 0 ≤ wh.toInt64 ∧ wh.toInt64 ≤ 1 then 1 else 0 := hr5
      have hr5 := hr5.trans (in_w _ 0 1 (by decide) (by decide))
      refine lv_if_eq (tgt := 39) hx hb dX11_spend_15 (by decide) (fun c6 => ?_) (fun c6 => ?_)
      · skip
        have c6 := (fa_bool_prop hr5).1.mp c6
        refine vp_callSl (va_Run.run (va_runS (As := []) (rest := []) ⟨hx, hb, hml, hown, hts⟩ (c_X11_lost l  ) (va_cwS 0 hts gX11_spend_X11_lost rfl rfl rfl (by decide +kernel) ⟨Nat.le_of_ble_eq_true rfl, Nat.le_of_ble_eq_true rfl⟩) (p0_preS hN) rfl rfl hl.1 rfl (lv_room (Nat.le_of_ble_eq_true rfl)) dX11_spend_39 ⟨Nat.le_of_ble_eq_true rfl, Nat.le_of_ble_eq_true rfl⟩)) (fun r7 hr7 => ?_)
        have hr7 : r7 = (-9223372036854775808) := hr7
        subst hr7
        subst hQ
        exact W.lret (v := (-9223372036854775808)) hx hb hr (fun t ht hW => ⟨⟨(-9223372036854775808), zr, rfl, ⟨hI, (Or.inr (Or.inl ⟨jt, rfl, hjt, c6, rfl, rfl⟩))⟩, (by rw [ht]; exact hP0), va_K.moved hW.alike hK, hD0⟩, (by rw [ht]; exact Nat.le_refl _), fun q _ _ => by rw [ht]⟩) (fun q h => absurd h List.not_mem_nil) dX11_spend_42
      · skip
        have c6 := (fa_bool_prop hr5).2.mp c6
        refine lv_iload_n hx hb dX11_spend_18 rfl (lv_at hl 3 rfl) ?_
        refine lv_i2l (v := pn.toInt64) hx hb dX11_spend_19 rfl ?_
        refine lv_lconst (v := 0) hx hb dX11_spend_20 (by decide) ?_
        refine lv_ldc2 (v := 100000) hx hb hown (hts (.constantLong RX11 220 (100000)) (List.mem_of_getElem? (i := 1) rfl)) dX11_spend_21 ?_
        refine vp_callSi (va_Run.run (va_runS (As := [.long pn.toInt64, .long 0, .long 100000]) (rest := []) ⟨hx, hb, hml, hown, hts⟩ (c_X11_in l pn.toInt64 0 100000 ) (va_cwS 3 hts gX11_spend_X11_in rfl rfl rfl (by decide +kernel) ⟨Nat.le_of_ble_eq_true rfl, Nat.le_of_ble_eq_true rfl⟩) (p0_preS hN) rfl rfl hl.1 rfl (lv_room (Nat.le_of_ble_eq_true rfl)) dX11_spend_24 ⟨Nat.le_of_ble_eq_true rfl, Nat.le_of_ble_eq_true rfl⟩)) (fun r8 hr8 => ?_)
        have hr8 : r8 = if 0 ≤ pn.toInt64 ∧ pn.toInt64 ≤ 100000 then 1 else 0 := hr8
        have hr8 := hr8.trans (in_w _ 0 100000 (by decide) (by decide))
        refine lv_if_eq (tgt := 39) hx hb dX11_spend_27 (by decide) (fun c9 => ?_) (fun c9 => ?_)
        · skip
          have c9 := (fa_bool_prop hr8).1.mp c9
          refine vp_callSl (va_Run.run (va_runS (As := []) (rest := []) ⟨hx, hb, hml, hown, hts⟩ (c_X11_lost l  ) (va_cwS 0 hts gX11_spend_X11_lost rfl rfl rfl (by decide +kernel) ⟨Nat.le_of_ble_eq_true rfl, Nat.le_of_ble_eq_true rfl⟩) (p0_preS hN) rfl rfl hl.1 rfl (lv_room (Nat.le_of_ble_eq_true rfl)) dX11_spend_39 ⟨Nat.le_of_ble_eq_true rfl, Nat.le_of_ble_eq_true rfl⟩)) (fun r10 hr10 => ?_)
          have hr10 : r10 = (-9223372036854775808) := hr10
          subst hr10
          subst hQ
          exact W.lret (v := (-9223372036854775808)) hx hb hr (fun t ht hW => ⟨⟨(-9223372036854775808), zr, rfl, ⟨hI, (Or.inr (Or.inr (Or.inl ⟨jt, rfl, hjt, c6, c9, rfl, rfl⟩)))⟩, (by rw [ht]; exact hP0), va_K.moved hW.alike hK, hD0⟩, (by rw [ht]; exact Nat.le_refl _), fun q _ _ => by rw [ht]⟩) (fun q h => absurd h List.not_mem_nil) dX11_spend_42
        · skip
          have c9 := (fa_bool_prop hr8).2.mp c9
          refine lv_aload_n hx hb dX11_spend_30 rfl (lv_at hl 0 rfl) ?_
          refine va_get (D := (dC, dI)) (ci := 11) (v := .ref (ad 28)) (C := RX11) (T := TX11) (N := 39) hx hb hts hiX11 hown hK hP 0 rfl rfl 28 (by decide) (hts (.fieldLink RX11 65 "TributePitchesModel" "isSettled" "[Z") (List.mem_of_getElem? (i := 2) rfl)) (fun _ h9 => h9) rfl dX11_spend_31 ?_
          refine lv_iload_n hx hb dX11_spend_34 rfl (lv_at hl 1 rfl) ?_
          refine va_zald hx hb hK hP 19 2 rfl rfl (vp_in_nI (by omega) (by omega)) dX11_spend_35 ?_
          refine lv_topi (fun v11 ev11 => ?_)
          have ev11 : v11 = (rs_I zr 28) jt := by rw [ev11]; rw [nI_clamp (by omega)]
          subst ev11
          refine lv_if_eq (tgt := 43) hx hb dX11_spend_36 (by decide) (fun c12 => ?_) (fun c12 => ?_)
          · skip
            refine lv_aload_n hx hb dX11_spend_43 rfl (lv_at hl 0 rfl) ?_
            refine va_get (D := (dC, dI)) (ci := 11) (v := .ref (ad 31)) (C := RX11) (T := TX11) (N := 39) hx hb hts hiX11 hown hK hP 0 rfl rfl 31 (by decide) (hts (.fieldLink RX11 75 "TributePitchesModel" "costs" "[J") (List.mem_of_getElem? (i := 3) rfl)) (fun _ h9 => h9) rfl dX11_spend_44 ?_
            refine lv_iload_n hx hb dX11_spend_47 rfl (lv_at hl 1 rfl) ?_
            refine lv_dup2_11 hx hb dX11_spend_48 rfl rfl ?_
            refine va_lald hx hb hK hP 22 1 rfl rfl (vp_in_nI (by omega) (by omega)) dX11_spend_49 ?_
            refine lv_topl (fun v13 ev13 => ?_)
            have ev13 : v13 = (rs_L zr 31) jt := by rw [ev13]; rw [nI_clamp (by omega)]
            subst ev13
            refine lv_iload_n hx hb dX11_spend_50 rfl (lv_at hl 2 rfl) ?_
            refine lv_if_ne (tgt := 59) hx hb dX11_spend_51 (by decide) (fun c14 => ?_) (fun c14 => ?_)
            · skip
              refine lv_lconst (v := 0) hx hb dX11_spend_59 (by decide) ?_
              refine lv_ladd hx hb dX11_spend_60 ?_
              refine va_last hx hb hK hP hD hS 22 1 rfl rfl (vp_in_nI (by omega) (by omega)) dX11_spend_61 (fun H locs hP hD hS => ?_)
              rw [nI_clamp (n := jt) (by omega)] at hP hD
              have hP : va_P (dC, dI) vwCl [rcO qm ad zr, rcI cI ad zr 2 48, rcI cI ad zr 3 48, rcI cI ad zr 4 48, rcI cI ad zr 5 48, rcI cI ad zr 7 4, rcI cI ad zr 8 4, rcI cI ad zr 9 192, rcI cI ad zr 10 48, rcI cI ad zr 12 12, rcI cI ad zr 13 12, rcI cI ad zr 14 12, rcI cI ad zr 15 12, rcI cI ad zr 16 12, rcI cI ad zr 18 8, rcJ cJ ad zr 19 8, rcI cI ad zr 25 40, rcI cI ad zr 26 40, rcI cI ad zr 27 40, rcI cZ ad zr 28 40, rcJ cJ ad zr 29 40, rcJ cJ ad zr 30 40, (ad 31, .inl (cJ, 40, .inr (.inl (vp_updL (rs_L zr 31) jt (((rs_L zr 31) jt) + 0))))), rcJ cJ ad zr 32 40, rcJ cJ ad zr 33 40, rcI cI ad zr 35 80, rcI cI ad zr 36 80, rcI cI ad zr 37 80] H := hP
              have hD : va_D _ [rcO qm ad zr, rcI cI ad zr 2 48, rcI cI ad zr 3 48, rcI cI ad zr 4 48, rcI cI ad zr 5 48, rcI cI ad zr 7 4, rcI cI ad zr 8 4, rcI cI ad zr 9 192, rcI cI ad zr 10 48, rcI cI ad zr 12 12, rcI cI ad zr 13 12, rcI cI ad zr 14 12, rcI cI ad zr 15 12, rcI cI ad zr 16 12, rcI cI ad zr 18 8, rcJ cJ ad zr 19 8, rcI cI ad zr 25 40, rcI cI ad zr 26 40, rcI cI ad zr 27 40, rcI cZ ad zr 28 40, rcJ cJ ad zr 29 40, rcJ cJ ad zr 30 40, (ad 31, .inl (cJ, 40, .inr (.inl (vp_updL (rs_L zr 31) jt (((rs_L zr 31) jt) + 0))))), rcJ cJ ad zr 32 40, rcJ cJ ad zr 33 40, rcI cI ad zr 35 80, rcI cI ad zr 36 80, rcI cI ad zr 37 80] := hD
              refine lv_aload_n hx hb dX11_spend_62 rfl (lv_at hl 0 rfl) ?_
              refine va_get (D := (dC, dI)) (ci := 11) (v := .ref (ad 32)) (C := RX11) (T := TX11) (N := 39) hx hb hts hiX11 hown hK hP 0 rfl rfl 32 (by decide) (hts (.fieldLink RX11 78 "TributePitchesModel" "ahead" "[J") (List.mem_of_getElem? (i := 4) rfl)) (fun _ h9 => h9) rfl dX11_spend_63 ?_
              refine lv_iload_n hx hb dX11_spend_66 rfl (lv_at hl 1 rfl) ?_
              refine lv_dup2_11 hx hb dX11_spend_67 rfl rfl ?_
              refine va_lald hx hb hK hP 23 1 rfl rfl (vp_in_nI (by omega) (by omega)) dX11_spend_68 ?_
              refine lv_topl (fun v15 ev15 => ?_)
              have ev15 : v15 = (rs_L zr 32) jt := by rw [ev15]; rw [nI_clamp (by omega)]
              subst ev15
              refine lv_iload_n hx hb dX11_spend_69 rfl (lv_at hl 2 rfl) ?_
              refine lv_iconst (v := 1) hx hb dX11_spend_70 (by decide) ?_
              refine lv_icmp_ne (tgt := 79) hx hb dX11_spend_71 (by decide) (fun c16 => ?_) (fun c16 => ?_)
              · skip
                refine lv_lconst (v := 0) hx hb dX11_spend_79 (by decide) ?_
                refine lv_ladd hx hb dX11_spend_80 ?_
                refine va_last hx hb hK hP hD hS 23 1 rfl rfl (vp_in_nI (by omega) (by omega)) dX11_spend_81 (fun H locs hP hD hS => ?_)
                rw [nI_clamp (n := jt) (by omega)] at hP hD
                have hP : va_P (dC, dI) vwCl [rcO qm ad zr, rcI cI ad zr 2 48, rcI cI ad zr 3 48, rcI cI ad zr 4 48, rcI cI ad zr 5 48, rcI cI ad zr 7 4, rcI cI ad zr 8 4, rcI cI ad zr 9 192, rcI cI ad zr 10 48, rcI cI ad zr 12 12, rcI cI ad zr 13 12, rcI cI ad zr 14 12, rcI cI ad zr 15 12, rcI cI ad zr 16 12, rcI cI ad zr 18 8, rcJ cJ ad zr 19 8, rcI cI ad zr 25 40, rcI cI ad zr 26 40, rcI cI ad zr 27 40, rcI cZ ad zr 28 40, rcJ cJ ad zr 29 40, rcJ cJ ad zr 30 40, (ad 31, .inl (cJ, 40, .inr (.inl (vp_updL (rs_L zr 31) jt (((rs_L zr 31) jt) + 0))))), (ad 32, .inl (cJ, 40, .inr (.inl (vp_updL (rs_L zr 32) jt (((rs_L zr 32) jt) + 0))))), rcJ cJ ad zr 33 40, rcI cI ad zr 35 80, rcI cI ad zr 36 80, rcI cI ad zr 37 80] H := hP
                have hD : va_D _ [rcO qm ad zr, rcI cI ad zr 2 48, rcI cI ad zr 3 48, rcI cI ad zr 4 48, rcI cI ad zr 5 48, rcI cI ad zr 7 4, rcI cI ad zr 8 4, rcI cI ad zr 9 192, rcI cI ad zr 10 48, rcI cI ad zr 12 12, rcI cI ad zr 13 12, rcI cI ad zr 14 12, rcI cI ad zr 15 12, rcI cI ad zr 16 12, rcI cI ad zr 18 8, rcJ cJ ad zr 19 8, rcI cI ad zr 25 40, rcI cI ad zr 26 40, rcI cI ad zr 27 40, rcI cZ ad zr 28 40, rcJ cJ ad zr 29 40, rcJ cJ ad zr 30 40, (ad 31, .inl (cJ, 40, .inr (.inl (vp_updL (rs_L zr 31) jt (((rs_L zr 31) jt) + 0))))), (ad 32, .inl (cJ, 40, .inr (.inl (vp_updL (rs_L zr 32) jt (((rs_L zr 32) jt) + 0))))), rcJ cJ ad zr 33 40, rcI cI ad zr 35 80, rcI cI ad zr 36 80, rcI cI ad zr 37 80] := hD
                refine lv_iload_n hx hb dX11_spend_82 rfl (lv_at hl 2 rfl) ?_
                refine lv_if_ne (tgt := 95) hx hb dX11_spend_83 (by decide) (fun c17 => ?_) (fun c17 => ?_)
                · skip
                  refine lv_aload_n hx hb dX11_spend_95 rfl (lv_at hl 0 rfl) ?_
                  refine va_get (D := (dC, dI)) (ci := 11) (v := .ref (ad 32)) (C := RX11) (T := TX11) (N := 39) hx hb hts hiX11 hown hK hP 0 rfl rfl 32 (by decide) (hts (.fieldLink RX11 78 "TributePitchesModel" "ahead" "[J") (List.mem_of_getElem? (i := 4) rfl)) (fun _ h9 => h9) rfl dX11_spend_96 ?_
                  refine lv_iload_n hx hb dX11_spend_99 rfl (lv_at hl 1 rfl) ?_
                  refine va_lald hx hb hK hP 23 1 rfl rfl (vp_in_nI (by omega) (by omega)) dX11_spend_100 ?_
                  refine lv_topl (fun v18 ev18 => ?_)
                  have ev18 : v18 = (vp_updL (rs_L zr 32) jt (((rs_L zr 32) jt) + 0)) jt := by rw [ev18]; rw [nI_clamp (by omega)]
                  subst ev18
                  subst hQ
                  have hlf := lr_spend_3 qm cI cJ cZ ad zr wh pn jt hjt c6 c9 c12 c14 c16 c17 hI
                  have hP9 : va_P (dC, dI) vwCl (rW qm cI cJ cZ ad (rs_i zr, rs_n zr, rs_I zr, va_up (va_up (rs_L zr) 31 (vp_updL (rs_L zr 31) jt (((rs_L zr 31) jt) + 0))) 32 (vp_updL (rs_L zr 32) jt (((rs_L zr 32) jt) + 0)))) H := by rw [hlf.2]; exact hP.sub [0, 1, 2, 3, 4, 5, 6, 7, 8, 9, 10, 11, 12, 13, 14, 15, 16, 17, 18, 19, 20, 21, 22, 23, 24, 25, 26, 27] rfl
                  have hD9 : va_D (va_A (rW qm cI cJ cZ ad zr) s.heap.size) (rW qm cI cJ cZ ad (rs_i zr, rs_n zr, rs_I zr, va_up (va_up (rs_L zr) 31 (vp_updL (rs_L zr 31) jt (((rs_L zr 31) jt) + 0))) 32 (vp_updL (rs_L zr 32) jt (((rs_L zr 32) jt) + 0)))) := by rw [hlf.2]; exact hD.sub [0, 1, 2, 3, 4, 5, 6, 7, 8, 9, 10, 11, 12, 13, 14, 15, 16, 17, 18, 19, 20, 21, 22, 23, 24, 25, 26, 27] (by decide) rfl
                  exact W.lret (v := (vp_updL (rs_L zr 32) jt (((rs_L zr 32) jt) + 0)) jt) hx hb hr (fun t ht hW => ⟨⟨(vp_updL (rs_L zr 32) jt (((rs_L zr 32) jt) + 0)) jt, (rs_i zr, rs_n zr, rs_I zr, va_up (va_up (rs_L zr) 31 (vp_updL (rs_L zr 31) jt (((rs_L zr 31) jt) + 0))) 32 (vp_updL (rs_L zr 32) jt (((rs_L zr 32) jt) + 0))), rfl, ⟨hlf.1, (Or.inr (Or.inr (Or.inr (Or.inl ⟨jt, rfl, hjt, c6, c9, c12, c14, c16, c17, rfl, rfl⟩))))⟩, by rw [ht]; exact hP9, va_K.moved hW.alike hK, hD9⟩, hS.F ht⟩) hS.2.2 dX11_spend_101
                · skip
                  refine lv_aload_n hx hb dX11_spend_86 rfl (lv_at hl 0 rfl) ?_
                  refine va_get (D := (dC, dI)) (ci := 11) (v := .ref (ad 31)) (C := RX11) (T := TX11) (N := 39) hx hb hts hiX11 hown hK hP 0 rfl rfl 31 (by decide) (hts (.fieldLink RX11 75 "TributePitchesModel" "costs" "[J") (List.mem_of_getElem? (i := 3) rfl)) (fun _ h9 => h9) rfl dX11_spend_87 ?_
                  refine lv_iload_n hx hb dX11_spend_90 rfl (lv_at hl 1 rfl) ?_
                  refine va_lald hx hb hK hP 22 1 rfl rfl (vp_in_nI (by omega) (by omega)) dX11_spend_91 ?_
                  refine lv_topl (fun v19 ev19 => ?_)
                  have ev19 : v19 = (vp_updL (rs_L zr 31) jt (((rs_L zr 31) jt) + 0)) jt := by rw [ev19]; rw [nI_clamp (by omega)]
                  subst ev19
                  refine lv_goto (tgt := 101) hx hb dX11_spend_92 (by decide) ?_
                  subst hQ
                  have hlf := lr_spend_4 qm cI cJ cZ ad zr wh pn jt hjt c6 c9 c12 c14 c16 c17 hI
                  have hP9 : va_P (dC, dI) vwCl (rW qm cI cJ cZ ad (rs_i zr, rs_n zr, rs_I zr, va_up (va_up (rs_L zr) 31 (vp_updL (rs_L zr 31) jt (((rs_L zr 31) jt) + 0))) 32 (vp_updL (rs_L zr 32) jt (((rs_L zr 32) jt) + 0)))) H := by rw [hlf.2]; exact hP.sub [0, 1, 2, 3, 4, 5, 6, 7, 8, 9, 10, 11, 12, 13, 14, 15, 16, 17, 18, 19, 20, 21, 22, 23, 24, 25, 26, 27] rfl
                  have hD9 : va_D (va_A (rW qm cI cJ cZ ad zr) s.heap.size) (rW qm cI cJ cZ ad (rs_i zr, rs_n zr, rs_I zr, va_up (va_up (rs_L zr) 31 (vp_updL (rs_L zr 31) jt (((rs_L zr 31) jt) + 0))) 32 (vp_updL (rs_L zr 32) jt (((rs_L zr 32) jt) + 0)))) := by rw [hlf.2]; exact hD.sub [0, 1, 2, 3, 4, 5, 6, 7, 8, 9, 10, 11, 12, 13, 14, 15, 16, 17, 18, 19, 20, 21, 22, 23, 24, 25, 26, 27] (by decide) rfl
                  exact W.lret (v := (vp_updL (rs_L zr 31) jt (((rs_L zr 31) jt) + 0)) jt) hx hb hr (fun t ht hW => ⟨⟨(vp_updL (rs_L zr 31) jt (((rs_L zr 31) jt) + 0)) jt, (rs_i zr, rs_n zr, rs_I zr, va_up (va_up (rs_L zr) 31 (vp_updL (rs_L zr 31) jt (((rs_L zr 31) jt) + 0))) 32 (vp_updL (rs_L zr 32) jt (((rs_L zr 32) jt) + 0))), rfl, ⟨hlf.1, (Or.inr (Or.inr (Or.inr (Or.inr (Or.inl ⟨jt, rfl, hjt, c6, c9, c12, c14, c16, c17, rfl, rfl⟩)))))⟩, by rw [ht]; exact hP9, va_K.moved hW.alike hK, hD9⟩, hS.F ht⟩) hS.2.2 dX11_spend_101
              · skip
                refine lv_iload_n hx hb dX11_spend_74 rfl (lv_at hl 3 rfl) ?_
                refine lv_i2l (v := pn.toInt64) hx hb dX11_spend_75 rfl ?_
                refine lv_goto (tgt := 80) hx hb dX11_spend_76 (by decide) ?_
                refine lv_ladd hx hb dX11_spend_80 ?_
                refine va_last hx hb hK hP hD hS 23 1 rfl rfl (vp_in_nI (by omega) (by omega)) dX11_spend_81 (fun H locs hP hD hS => ?_)
                rw [nI_clamp (n := jt) (by omega)] at hP hD
                have hP : va_P (dC, dI) vwCl [rcO qm ad zr, rcI cI ad zr 2 48, rcI cI ad zr 3 48, rcI cI ad zr 4 48, rcI cI ad zr 5 48, rcI cI ad zr 7 4, rcI cI ad zr 8 4, rcI cI ad zr 9 192, rcI cI ad zr 10 48, rcI cI ad zr 12 12, rcI cI ad zr 13 12, rcI cI ad zr 14 12, rcI cI ad zr 15 12, rcI cI ad zr 16 12, rcI cI ad zr 18 8, rcJ cJ ad zr 19 8, rcI cI ad zr 25 40, rcI cI ad zr 26 40, rcI cI ad zr 27 40, rcI cZ ad zr 28 40, rcJ cJ ad zr 29 40, rcJ cJ ad zr 30 40, (ad 31, .inl (cJ, 40, .inr (.inl (vp_updL (rs_L zr 31) jt (((rs_L zr 31) jt) + 0))))), (ad 32, .inl (cJ, 40, .inr (.inl (vp_updL (rs_L zr 32) jt (((rs_L zr 32) jt) + pn.toInt64))))), rcJ cJ ad zr 33 40, rcI cI ad zr 35 80, rcI cI ad zr 36 80, rcI cI ad zr 37 80] H := hP
                have hD : va_D _ [rcO qm ad zr, rcI cI ad zr 2 48, rcI cI ad zr 3 48, rcI cI ad zr 4 48, rcI cI ad zr 5 48, rcI cI ad zr 7 4, rcI cI ad zr 8 4, rcI cI ad zr 9 192, rcI cI ad zr 10 48, rcI cI ad zr 12 12, rcI cI ad zr 13 12, rcI cI ad zr 14 12, rcI cI ad zr 15 12, rcI cI ad zr 16 12, rcI cI ad zr 18 8, rcJ cJ ad zr 19 8, rcI cI ad zr 25 40, rcI cI ad zr 26 40, rcI cI ad zr 27 40, rcI cZ ad zr 28 40, rcJ cJ ad zr 29 40, rcJ cJ ad zr 30 40, (ad 31, .inl (cJ, 40, .inr (.inl (vp_updL (rs_L zr 31) jt (((rs_L zr 31) jt) + 0))))), (ad 32, .inl (cJ, 40, .inr (.inl (vp_updL (rs_L zr 32) jt (((rs_L zr 32) jt) + pn.toInt64))))), rcJ cJ ad zr 33 40, rcI cI ad zr 35 80, rcI cI ad zr 36 80, rcI cI ad zr 37 80] := hD
                refine lv_iload_n hx hb dX11_spend_82 rfl (lv_at hl 2 rfl) ?_
                refine lv_if_ne (tgt := 95) hx hb dX11_spend_83 (by decide) (fun c20 => ?_) (fun c20 => ?_)
                · skip
                  refine lv_aload_n hx hb dX11_spend_95 rfl (lv_at hl 0 rfl) ?_
                  refine va_get (D := (dC, dI)) (ci := 11) (v := .ref (ad 32)) (C := RX11) (T := TX11) (N := 39) hx hb hts hiX11 hown hK hP 0 rfl rfl 32 (by decide) (hts (.fieldLink RX11 78 "TributePitchesModel" "ahead" "[J") (List.mem_of_getElem? (i := 4) rfl)) (fun _ h9 => h9) rfl dX11_spend_96 ?_
                  refine lv_iload_n hx hb dX11_spend_99 rfl (lv_at hl 1 rfl) ?_
                  refine va_lald hx hb hK hP 23 1 rfl rfl (vp_in_nI (by omega) (by omega)) dX11_spend_100 ?_
                  refine lv_topl (fun v21 ev21 => ?_)
                  have ev21 : v21 = (vp_updL (rs_L zr 32) jt (((rs_L zr 32) jt) + pn.toInt64)) jt := by rw [ev21]; rw [nI_clamp (by omega)]
                  subst ev21
                  subst hQ
                  have hlf := lr_spend_5 qm cI cJ cZ ad zr wh pn jt hjt c6 c9 c12 c14 c16 c20 hI
                  have hP9 : va_P (dC, dI) vwCl (rW qm cI cJ cZ ad (rs_i zr, rs_n zr, rs_I zr, va_up (va_up (rs_L zr) 31 (vp_updL (rs_L zr 31) jt (((rs_L zr 31) jt) + 0))) 32 (vp_updL (rs_L zr 32) jt (((rs_L zr 32) jt) + pn.toInt64)))) H := by rw [hlf.2]; exact hP.sub [0, 1, 2, 3, 4, 5, 6, 7, 8, 9, 10, 11, 12, 13, 14, 15, 16, 17, 18, 19, 20, 21, 22, 23, 24, 25, 26, 27] rfl
                  have hD9 : va_D (va_A (rW qm cI cJ cZ ad zr) s.heap.size) (rW qm cI cJ cZ ad (rs_i zr, rs_n zr, rs_I zr, va_up (va_up (rs_L zr) 31 (vp_updL (rs_L zr 31) jt (((rs_L zr 31) jt) + 0))) 32 (vp_updL (rs_L zr 32) jt (((rs_L zr 32) jt) + pn.toInt64)))) := by rw [hlf.2]; exact hD.sub [0, 1, 2, 3, 4, 5, 6, 7, 8, 9, 10, 11, 12, 13, 14, 15, 16, 17, 18, 19, 20, 21, 22, 23, 24, 25, 26, 27] (by decide) rfl
                  exact W.lret (v := (vp_updL (rs_L zr 32) jt (((rs_L zr 32) jt) + pn.toInt64)) jt) hx hb hr (fun t ht hW => ⟨⟨(vp_updL (rs_L zr 32) jt (((rs_L zr 32) jt) + pn.toInt64)) jt, (rs_i zr, rs_n zr, rs_I zr, va_up (va_up (rs_L zr) 31 (vp_updL (rs_L zr 31) jt (((rs_L zr 31) jt) + 0))) 32 (vp_updL (rs_L zr 32) jt (((rs_L zr 32) jt) + pn.toInt64))), rfl, ⟨hlf.1, (Or.inr (Or.inr (Or.inr (Or.inr (Or.inr (Or.inl ⟨jt, rfl, hjt, c6, c9, c12, c14, c16, c20, rfl, rfl⟩))))))⟩, by rw [ht]; exact hP9, va_K.moved hW.alike hK, hD9⟩, hS.F ht⟩) hS.2.2 dX11_spend_101
                · skip
                  refine lv_aload_n hx hb dX11_spend_86 rfl (lv_at hl 0 rfl) ?_
                  refine va_get (D := (dC, dI)) (ci := 11) (v := .ref (ad 31)) (C := RX11) (T := TX11) (N := 39) hx hb hts hiX11 hown hK hP 0 rfl rfl 31 (by decide) (hts (.fieldLink RX11 75 "TributePitchesModel" "costs" "[J") (List.mem_of_getElem? (i := 3) rfl)) (fun _ h9 => h9) rfl dX11_spend_87 ?_
                  refine lv_iload_n hx hb dX11_spend_90 rfl (lv_at hl 1 rfl) ?_
                  refine va_lald hx hb hK hP 22 1 rfl rfl (vp_in_nI (by omega) (by omega)) dX11_spend_91 ?_
                  refine lv_topl (fun v22 ev22 => ?_)
                  have ev22 : v22 = (vp_updL (rs_L zr 31) jt (((rs_L zr 31) jt) + 0)) jt := by rw [ev22]; rw [nI_clamp (by omega)]
                  subst ev22
                  refine lv_goto (tgt := 101) hx hb dX11_spend_92 (by decide) ?_
                  subst hQ
                  have hlf := lr_spend_6 qm cI cJ cZ ad zr wh pn jt hjt c6 c9 c12 c14 c16 c20 hI
                  have hP9 : va_P (dC, dI) vwCl (rW qm cI cJ cZ ad (rs_i zr, rs_n zr, rs_I zr, va_up (va_up (rs_L zr) 31 (vp_updL (rs_L zr 31) jt (((rs_L zr 31) jt) + 0))) 32 (vp_updL (rs_L zr 32) jt (((rs_L zr 32) jt) + pn.toInt64)))) H := by rw [hlf.2]; exact hP.sub [0, 1, 2, 3, 4, 5, 6, 7, 8, 9, 10, 11, 12, 13, 14, 15, 16, 17, 18, 19, 20, 21, 22, 23, 24, 25, 26, 27] rfl
                  have hD9 : va_D (va_A (rW qm cI cJ cZ ad zr) s.heap.size) (rW qm cI cJ cZ ad (rs_i zr, rs_n zr, rs_I zr, va_up (va_up (rs_L zr) 31 (vp_updL (rs_L zr 31) jt (((rs_L zr 31) jt) + 0))) 32 (vp_updL (rs_L zr 32) jt (((rs_L zr 32) jt) + pn.toInt64)))) := by rw [hlf.2]; exact hD.sub [0, 1, 2, 3, 4, 5, 6, 7, 8, 9, 10, 11, 12, 13, 14, 15, 16, 17, 18, 19, 20, 21, 22, 23, 24, 25, 26, 27] (by decide) rfl
                  exact W.lret (v := (vp_updL (rs_L zr 31) jt (((rs_L zr 31) jt) + 0)) jt) hx hb hr (fun t ht hW => ⟨⟨(vp_updL (rs_L zr 31) jt (((rs_L zr 31) jt) + 0)) jt, (rs_i zr, rs_n zr, rs_I zr, va_up (va_up (rs_L zr) 31 (vp_updL (rs_L zr 31) jt (((rs_L zr 31) jt) + 0))) 32 (vp_updL (rs_L zr 32) jt (((rs_L zr 32) jt) + pn.toInt64))), rfl, ⟨hlf.1, (Or.inr (Or.inr (Or.inr (Or.inr (Or.inr (Or.inr (Or.inl ⟨jt, rfl, hjt, c6, c9, c12, c14, c16, c20, rfl, rfl⟩)))))))⟩, by rw [ht]; exact hP9, va_K.moved hW.alike hK, hD9⟩, hS.F ht⟩) hS.2.2 dX11_spend_101
            · skip
              refine lv_iload_n hx hb dX11_spend_54 rfl (lv_at hl 3 rfl) ?_
              refine lv_i2l (v := pn.toInt64) hx hb dX11_spend_55 rfl ?_
              refine lv_goto (tgt := 60) hx hb dX11_spend_56 (by decide) ?_
              refine lv_ladd hx hb dX11_spend_60 ?_
              refine va_last hx hb hK hP hD hS 22 1 rfl rfl (vp_in_nI (by omega) (by omega)) dX11_spend_61 (fun H locs hP hD hS => ?_)
              rw [nI_clamp (n := jt) (by omega)] at hP hD
              have hP : va_P (dC, dI) vwCl [rcO qm ad zr, rcI cI ad zr 2 48, rcI cI ad zr 3 48, rcI cI ad zr 4 48, rcI cI ad zr 5 48, rcI cI ad zr 7 4, rcI cI ad zr 8 4, rcI cI ad zr 9 192, rcI cI ad zr 10 48, rcI cI ad zr 12 12, rcI cI ad zr 13 12, rcI cI ad zr 14 12, rcI cI ad zr 15 12, rcI cI ad zr 16 12, rcI cI ad zr 18 8, rcJ cJ ad zr 19 8, rcI cI ad zr 25 40, rcI cI ad zr 26 40, rcI cI ad zr 27 40, rcI cZ ad zr 28 40, rcJ cJ ad zr 29 40, rcJ cJ ad zr 30 40, (ad 31, .inl (cJ, 40, .inr (.inl (vp_updL (rs_L zr 31) jt (((rs_L zr 31) jt) + pn.toInt64))))), rcJ cJ ad zr 32 40, rcJ cJ ad zr 33 40, rcI cI ad zr 35 80, rcI cI ad zr 36 80, rcI cI ad zr 37 80] H := hP
              have hD : va_D _ [rcO qm ad zr, rcI cI ad zr 2 48, rcI cI ad zr 3 48, rcI cI ad zr 4 48, rcI cI ad zr 5 48, rcI cI ad zr 7 4, rcI cI ad zr 8 4, rcI cI ad zr 9 192, rcI cI ad zr 10 48, rcI cI ad zr 12 12, rcI cI ad zr 13 12, rcI cI ad zr 14 12, rcI cI ad zr 15 12, rcI cI ad zr 16 12, rcI cI ad zr 18 8, rcJ cJ ad zr 19 8, rcI cI ad zr 25 40, rcI cI ad zr 26 40, rcI cI ad zr 27 40, rcI cZ ad zr 28 40, rcJ cJ ad zr 29 40, rcJ cJ ad zr 30 40, (ad 31, .inl (cJ, 40, .inr (.inl (vp_updL (rs_L zr 31) jt (((rs_L zr 31) jt) + pn.toInt64))))), rcJ cJ ad zr 32 40, rcJ cJ ad zr 33 40, rcI cI ad zr 35 80, rcI cI ad zr 36 80, rcI cI ad zr 37 80] := hD
              refine lv_aload_n hx hb dX11_spend_62 rfl (lv_at hl 0 rfl) ?_
              refine va_get (D := (dC, dI)) (ci := 11) (v := .ref (ad 32)) (C := RX11) (T := TX11) (N := 39) hx hb hts hiX11 hown hK hP 0 rfl rfl 32 (by decide) (hts (.fieldLink RX11 78 "TributePitchesModel" "ahead" "[J") (List.mem_of_getElem? (i := 4) rfl)) (fun _ h9 => h9) rfl dX11_spend_63 ?_
              refine lv_iload_n hx hb dX11_spend_66 rfl (lv_at hl 1 rfl) ?_
              refine lv_dup2_11 hx hb dX11_spend_67 rfl rfl ?_
              refine va_lald hx hb hK hP 23 1 rfl rfl (vp_in_nI (by omega) (by omega)) dX11_spend_68 ?_
              refine lv_topl (fun v23 ev23 => ?_)
              have ev23 : v23 = (rs_L zr 32) jt := by rw [ev23]; rw [nI_clamp (by omega)]
              subst ev23
              refine lv_iload_n hx hb dX11_spend_69 rfl (lv_at hl 2 rfl) ?_
              refine lv_iconst (v := 1) hx hb dX11_spend_70 (by decide) ?_
              refine lv_icmp_ne (tgt := 79) hx hb dX11_spend_71 (by decide) (fun c24 => ?_) (fun c24 => ?_)
              · skip
                refine lv_lconst (v := 0) hx hb dX11_spend_79 (by decide) ?_
                refine lv_ladd hx hb dX11_spend_80 ?_
                refine va_last hx hb hK hP hD hS 23 1 rfl rfl (vp_in_nI (by omega) (by omega)) dX11_spend_81 (fun H locs hP hD hS => ?_)
                rw [nI_clamp (n := jt) (by omega)] at hP hD
                have hP : va_P (dC, dI) vwCl [rcO qm ad zr, rcI cI ad zr 2 48, rcI cI ad zr 3 48, rcI cI ad zr 4 48, rcI cI ad zr 5 48, rcI cI ad zr 7 4, rcI cI ad zr 8 4, rcI cI ad zr 9 192, rcI cI ad zr 10 48, rcI cI ad zr 12 12, rcI cI ad zr 13 12, rcI cI ad zr 14 12, rcI cI ad zr 15 12, rcI cI ad zr 16 12, rcI cI ad zr 18 8, rcJ cJ ad zr 19 8, rcI cI ad zr 25 40, rcI cI ad zr 26 40, rcI cI ad zr 27 40, rcI cZ ad zr 28 40, rcJ cJ ad zr 29 40, rcJ cJ ad zr 30 40, (ad 31, .inl (cJ, 40, .inr (.inl (vp_updL (rs_L zr 31) jt (((rs_L zr 31) jt) + pn.toInt64))))), (ad 32, .inl (cJ, 40, .inr (.inl (vp_updL (rs_L zr 32) jt (((rs_L zr 32) jt) + 0))))), rcJ cJ ad zr 33 40, rcI cI ad zr 35 80, rcI cI ad zr 36 80, rcI cI ad zr 37 80] H := hP
                have hD : va_D _ [rcO qm ad zr, rcI cI ad zr 2 48, rcI cI ad zr 3 48, rcI cI ad zr 4 48, rcI cI ad zr 5 48, rcI cI ad zr 7 4, rcI cI ad zr 8 4, rcI cI ad zr 9 192, rcI cI ad zr 10 48, rcI cI ad zr 12 12, rcI cI ad zr 13 12, rcI cI ad zr 14 12, rcI cI ad zr 15 12, rcI cI ad zr 16 12, rcI cI ad zr 18 8, rcJ cJ ad zr 19 8, rcI cI ad zr 25 40, rcI cI ad zr 26 40, rcI cI ad zr 27 40, rcI cZ ad zr 28 40, rcJ cJ ad zr 29 40, rcJ cJ ad zr 30 40, (ad 31, .inl (cJ, 40, .inr (.inl (vp_updL (rs_L zr 31) jt (((rs_L zr 31) jt) + pn.toInt64))))), (ad 32, .inl (cJ, 40, .inr (.inl (vp_updL (rs_L zr 32) jt (((rs_L zr 32) jt) + 0))))), rcJ cJ ad zr 33 40, rcI cI ad zr 35 80, rcI cI ad zr 36 80, rcI cI ad zr 37 80] := hD
                refine lv_iload_n hx hb dX11_spend_82 rfl (lv_at hl 2 rfl) ?_
                refine lv_if_ne (tgt := 95) hx hb dX11_spend_83 (by decide) (fun c25 => ?_) (fun c25 => ?_)
                · skip
                  refine lv_aload_n hx hb dX11_spend_95 rfl (lv_at hl 0 rfl) ?_
                  refine va_get (D := (dC, dI)) (ci := 11) (v := .ref (ad 32)) (C := RX11) (T := TX11) (N := 39) hx hb hts hiX11 hown hK hP 0 rfl rfl 32 (by decide) (hts (.fieldLink RX11 78 "TributePitchesModel" "ahead" "[J") (List.mem_of_getElem? (i := 4) rfl)) (fun _ h9 => h9) rfl dX11_spend_96 ?_
                  refine lv_iload_n hx hb dX11_spend_99 rfl (lv_at hl 1 rfl) ?_
                  refine va_lald hx hb hK hP 23 1 rfl rfl (vp_in_nI (by omega) (by omega)) dX11_spend_100 ?_
                  refine lv_topl (fun v26 ev26 => ?_)
                  have ev26 : v26 = (vp_updL (rs_L zr 32) jt (((rs_L zr 32) jt) + 0)) jt := by rw [ev26]; rw [nI_clamp (by omega)]
                  subst ev26
                  subst hQ
                  have hlf := lr_spend_7 qm cI cJ cZ ad zr wh pn jt hjt c6 c9 c12 c14 c24 c25 hI
                  have hP9 : va_P (dC, dI) vwCl (rW qm cI cJ cZ ad (rs_i zr, rs_n zr, rs_I zr, va_up (va_up (rs_L zr) 31 (vp_updL (rs_L zr 31) jt (((rs_L zr 31) jt) + pn.toInt64))) 32 (vp_updL (rs_L zr 32) jt (((rs_L zr 32) jt) + 0)))) H := by rw [hlf.2]; exact hP.sub [0, 1, 2, 3, 4, 5, 6, 7, 8, 9, 10, 11, 12, 13, 14, 15, 16, 17, 18, 19, 20, 21, 22, 23, 24, 25, 26, 27] rfl
                  have hD9 : va_D (va_A (rW qm cI cJ cZ ad zr) s.heap.size) (rW qm cI cJ cZ ad (rs_i zr, rs_n zr, rs_I zr, va_up (va_up (rs_L zr) 31 (vp_updL (rs_L zr 31) jt (((rs_L zr 31) jt) + pn.toInt64))) 32 (vp_updL (rs_L zr 32) jt (((rs_L zr 32) jt) + 0)))) := by rw [hlf.2]; exact hD.sub [0, 1, 2, 3, 4, 5, 6, 7, 8, 9, 10, 11, 12, 13, 14, 15, 16, 17, 18, 19, 20, 21, 22, 23, 24, 25, 26, 27] (by decide) rfl
                  exact W.lret (v := (vp_updL (rs_L zr 32) jt (((rs_L zr 32) jt) + 0)) jt) hx hb hr (fun t ht hW => ⟨⟨(vp_updL (rs_L zr 32) jt (((rs_L zr 32) jt) + 0)) jt, (rs_i zr, rs_n zr, rs_I zr, va_up (va_up (rs_L zr) 31 (vp_updL (rs_L zr 31) jt (((rs_L zr 31) jt) + pn.toInt64))) 32 (vp_updL (rs_L zr 32) jt (((rs_L zr 32) jt) + 0))), rfl, ⟨hlf.1, (Or.inr (Or.inr (Or.inr (Or.inr (Or.inr (Or.inr (Or.inr (Or.inl ⟨jt, rfl, hjt, c6, c9, c12, c14, c24, c25, rfl, rfl⟩))))))))⟩, by rw [ht]; exact hP9, va_K.moved hW.alike hK, hD9⟩, hS.F ht⟩) hS.2.2 dX11_spend_101
                · skip
                  refine lv_aload_n hx hb dX11_spend_86 rfl (lv_at hl 0 rfl) ?_
                  refine va_get (D := (dC, dI)) (ci := 11) (v := .ref (ad 31)) (C := RX11) (T := TX11) (N := 39) hx hb hts hiX11 hown hK hP 0 rfl rfl 31 (by decide) (hts (.fieldLink RX11 75 "TributePitchesModel" "costs" "[J") (List.mem_of_getElem? (i := 3) rfl)) (fun _ h9 => h9) rfl dX11_spend_87 ?_
                  refine lv_iload_n hx hb dX11_spend_90 rfl (lv_at hl 1 rfl) ?_
                  refine va_lald hx hb hK hP 22 1 rfl rfl (vp_in_nI (by omega) (by omega)) dX11_spend_91 ?_
                  refine lv_topl (fun v27 ev27 => ?_)
                  have ev27 : v27 = (vp_updL (rs_L zr 31) jt (((rs_L zr 31) jt) + pn.toInt64)) jt := by rw [ev27]; rw [nI_clamp (by omega)]
                  subst ev27
                  refine lv_goto (tgt := 101) hx hb dX11_spend_92 (by decide) ?_
                  subst hQ
                  have hlf := lr_spend_8 qm cI cJ cZ ad zr wh pn jt hjt c6 c9 c12 c14 c24 c25 hI
                  have hP9 : va_P (dC, dI) vwCl (rW qm cI cJ cZ ad (rs_i zr, rs_n zr, rs_I zr, va_up (va_up (rs_L zr) 31 (vp_updL (rs_L zr 31) jt (((rs_L zr 31) jt) + pn.toInt64))) 32 (vp_updL (rs_L zr 32) jt (((rs_L zr 32) jt) + 0)))) H := by rw [hlf.2]; exact hP.sub [0, 1, 2, 3, 4, 5, 6, 7, 8, 9, 10, 11, 12, 13, 14, 15, 16, 17, 18, 19, 20, 21, 22, 23, 24, 25, 26, 27] rfl
                  have hD9 : va_D (va_A (rW qm cI cJ cZ ad zr) s.heap.size) (rW qm cI cJ cZ ad (rs_i zr, rs_n zr, rs_I zr, va_up (va_up (rs_L zr) 31 (vp_updL (rs_L zr 31) jt (((rs_L zr 31) jt) + pn.toInt64))) 32 (vp_updL (rs_L zr 32) jt (((rs_L zr 32) jt) + 0)))) := by rw [hlf.2]; exact hD.sub [0, 1, 2, 3, 4, 5, 6, 7, 8, 9, 10, 11, 12, 13, 14, 15, 16, 17, 18, 19, 20, 21, 22, 23, 24, 25, 26, 27] (by decide) rfl
                  exact W.lret (v := (vp_updL (rs_L zr 31) jt (((rs_L zr 31) jt) + pn.toInt64)) jt) hx hb hr (fun t ht hW => ⟨⟨(vp_updL (rs_L zr 31) jt (((rs_L zr 31) jt) + pn.toInt64)) jt, (rs_i zr, rs_n zr, rs_I zr, va_up (va_up (rs_L zr) 31 (vp_updL (rs_L zr 31) jt (((rs_L zr 31) jt) + pn.toInt64))) 32 (vp_updL (rs_L zr 32) jt (((rs_L zr 32) jt) + 0))), rfl, ⟨hlf.1, (Or.inr (Or.inr (Or.inr (Or.inr (Or.inr (Or.inr (Or.inr (Or.inr (Or.inl ⟨jt, rfl, hjt, c6, c9, c12, c14, c24, c25, rfl, rfl⟩)))))))))⟩, by rw [ht]; exact hP9, va_K.moved hW.alike hK, hD9⟩, hS.F ht⟩) hS.2.2 dX11_spend_101
              · skip
                refine lv_iload_n hx hb dX11_spend_74 rfl (lv_at hl 3 rfl) ?_
                refine lv_i2l (v := pn.toInt64) hx hb dX11_spend_75 rfl ?_
                refine lv_goto (tgt := 80) hx hb dX11_spend_76 (by decide) ?_
                refine lv_ladd hx hb dX11_spend_80 ?_
                refine va_last hx hb hK hP hD hS 23 1 rfl rfl (vp_in_nI (by omega) (by omega)) dX11_spend_81 (fun H locs hP hD hS => ?_)
                rw [nI_clamp (n := jt) (by omega)] at hP hD
                have hP : va_P (dC, dI) vwCl [rcO qm ad zr, rcI cI ad zr 2 48, rcI cI ad zr 3 48, rcI cI ad zr 4 48, rcI cI ad zr 5 48, rcI cI ad zr 7 4, rcI cI ad zr 8 4, rcI cI ad zr 9 192, rcI cI ad zr 10 48, rcI cI ad zr 12 12, rcI cI ad zr 13 12, rcI cI ad zr 14 12, rcI cI ad zr 15 12, rcI cI ad zr 16 12, rcI cI ad zr 18 8, rcJ cJ ad zr 19 8, rcI cI ad zr 25 40, rcI cI ad zr 26 40, rcI cI ad zr 27 40, rcI cZ ad zr 28 40, rcJ cJ ad zr 29 40, rcJ cJ ad zr 30 40, (ad 31, .inl (cJ, 40, .inr (.inl (vp_updL (rs_L zr 31) jt (((rs_L zr 31) jt) + pn.toInt64))))), (ad 32, .inl (cJ, 40, .inr (.inl (vp_updL (rs_L zr 32) jt (((rs_L zr 32) jt) + pn.toInt64))))), rcJ cJ ad zr 33 40, rcI cI ad zr 35 80, rcI cI ad zr 36 80, rcI cI ad zr 37 80] H := hP
                have hD : va_D _ [rcO qm ad zr, rcI cI ad zr 2 48, rcI cI ad zr 3 48, rcI cI ad zr 4 48, rcI cI ad zr 5 48, rcI cI ad zr 7 4, rcI cI ad zr 8 4, rcI cI ad zr 9 192, rcI cI ad zr 10 48, rcI cI ad zr 12 12, rcI cI ad zr 13 12, rcI cI ad zr 14 12, rcI cI ad zr 15 12, rcI cI ad zr 16 12, rcI cI ad zr 18 8, rcJ cJ ad zr 19 8, rcI cI ad zr 25 40, rcI cI ad zr 26 40, rcI cI ad zr 27 40, rcI cZ ad zr 28 40, rcJ cJ ad zr 29 40, rcJ cJ ad zr 30 40, (ad 31, .inl (cJ, 40, .inr (.inl (vp_updL (rs_L zr 31) jt (((rs_L zr 31) jt) + pn.toInt64))))), (ad 32, .inl (cJ, 40, .inr (.inl (vp_updL (rs_L zr 32) jt (((rs_L zr 32) jt) + pn.toInt64))))), rcJ cJ ad zr 33 40, rcI cI ad zr 35 80, rcI cI ad zr 36 80, rcI cI ad zr 37 80] := hD
                refine lv_iload_n hx hb dX11_spend_82 rfl (lv_at hl 2 rfl) ?_
                refine lv_if_ne (tgt := 95) hx hb dX11_spend_83 (by decide) (fun c28 => ?_) (fun c28 => ?_)
                · skip
                  refine lv_aload_n hx hb dX11_spend_95 rfl (lv_at hl 0 rfl) ?_
                  refine va_get (D := (dC, dI)) (ci := 11) (v := .ref (ad 32)) (C := RX11) (T := TX11) (N := 39) hx hb hts hiX11 hown hK hP 0 rfl rfl 32 (by decide) (hts (.fieldLink RX11 78 "TributePitchesModel" "ahead" "[J") (List.mem_of_getElem? (i := 4) rfl)) (fun _ h9 => h9) rfl dX11_spend_96 ?_
                  refine lv_iload_n hx hb dX11_spend_99 rfl (lv_at hl 1 rfl) ?_
                  refine va_lald hx hb hK hP 23 1 rfl rfl (vp_in_nI (by omega) (by omega)) dX11_spend_100 ?_
                  refine lv_topl (fun v29 ev29 => ?_)
                  have ev29 : v29 = (vp_updL (rs_L zr 32) jt (((rs_L zr 32) jt) + pn.toInt64)) jt := by rw [ev29]; rw [nI_clamp (by omega)]
                  subst ev29
                  subst hQ
                  have hlf := lr_spend_9 qm cI cJ cZ ad zr wh pn jt hjt c6 c9 c12 c14 c24 c28 hI
                  have hP9 : va_P (dC, dI) vwCl (rW qm cI cJ cZ ad (rs_i zr, rs_n zr, rs_I zr, va_up (va_up (rs_L zr) 31 (vp_updL (rs_L zr 31) jt (((rs_L zr 31) jt) + pn.toInt64))) 32 (vp_updL (rs_L zr 32) jt (((rs_L zr 32) jt) + pn.toInt64)))) H := by rw [hlf.2]; exact hP.sub [0, 1, 2, 3, 4, 5, 6, 7, 8, 9, 10, 11, 12, 13, 14, 15, 16, 17, 18, 19, 20, 21, 22, 23, 24, 25, 26, 27] rfl
                  have hD9 : va_D (va_A (rW qm cI cJ cZ ad zr) s.heap.size) (rW qm cI cJ cZ ad (rs_i zr, rs_n zr, rs_I zr, va_up (va_up (rs_L zr) 31 (vp_updL (rs_L zr 31) jt (((rs_L zr 31) jt) + pn.toInt64))) 32 (vp_updL (rs_L zr 32) jt (((rs_L zr 32) jt) + pn.toInt64)))) := by rw [hlf.2]; exact hD.sub [0, 1, 2, 3, 4, 5, 6, 7, 8, 9, 10, 11, 12, 13, 14, 15, 16, 17, 18, 19, 20, 21, 22, 23, 24, 25, 26, 27] (by decide) rfl
                  exact W.lret (v := (vp_updL (rs_L zr 32) jt (((rs_L zr 32) jt) + pn.toInt64)) jt) hx hb hr (fun t ht hW => ⟨⟨(vp_updL (rs_L zr 32) jt (((rs_L zr 32) jt) + pn.toInt64)) jt, (rs_i zr, rs_n zr, rs_I zr, va_up (va_up (rs_L zr) 31 (vp_updL (rs_L zr 31) jt (((rs_L zr 31) jt) + pn.toInt64))) 32 (vp_updL (rs_L zr 32) jt (((rs_L zr 32) jt) + pn.toInt64))), rfl, ⟨hlf.1, (Or.inr (Or.inr (Or.inr (Or.inr (Or.inr (Or.inr (Or.inr (Or.inr (Or.inr (Or.inl ⟨jt, rfl, hjt, c6, c9, c12, c14, c24, c28, rfl, rfl⟩))))))))))⟩, by rw [ht]; exact hP9, va_K.moved hW.alike hK, hD9⟩, hS.F ht⟩) hS.2.2 dX11_spend_101
                · skip
                  refine lv_aload_n hx hb dX11_spend_86 rfl (lv_at hl 0 rfl) ?_
                  refine va_get (D := (dC, dI)) (ci := 11) (v := .ref (ad 31)) (C := RX11) (T := TX11) (N := 39) hx hb hts hiX11 hown hK hP 0 rfl rfl 31 (by decide) (hts (.fieldLink RX11 75 "TributePitchesModel" "costs" "[J") (List.mem_of_getElem? (i := 3) rfl)) (fun _ h9 => h9) rfl dX11_spend_87 ?_
                  refine lv_iload_n hx hb dX11_spend_90 rfl (lv_at hl 1 rfl) ?_
                  refine va_lald hx hb hK hP 22 1 rfl rfl (vp_in_nI (by omega) (by omega)) dX11_spend_91 ?_
                  refine lv_topl (fun v30 ev30 => ?_)
                  have ev30 : v30 = (vp_updL (rs_L zr 31) jt (((rs_L zr 31) jt) + pn.toInt64)) jt := by rw [ev30]; rw [nI_clamp (by omega)]
                  subst ev30
                  refine lv_goto (tgt := 101) hx hb dX11_spend_92 (by decide) ?_
                  subst hQ
                  have hlf := lr_spend_10 qm cI cJ cZ ad zr wh pn jt hjt c6 c9 c12 c14 c24 c28 hI
                  have hP9 : va_P (dC, dI) vwCl (rW qm cI cJ cZ ad (rs_i zr, rs_n zr, rs_I zr, va_up (va_up (rs_L zr) 31 (vp_updL (rs_L zr 31) jt (((rs_L zr 31) jt) + pn.toInt64))) 32 (vp_updL (rs_L zr 32) jt (((rs_L zr 32) jt) + pn.toInt64)))) H := by rw [hlf.2]; exact hP.sub [0, 1, 2, 3, 4, 5, 6, 7, 8, 9, 10, 11, 12, 13, 14, 15, 16, 17, 18, 19, 20, 21, 22, 23, 24, 25, 26, 27] rfl
                  have hD9 : va_D (va_A (rW qm cI cJ cZ ad zr) s.heap.size) (rW qm cI cJ cZ ad (rs_i zr, rs_n zr, rs_I zr, va_up (va_up (rs_L zr) 31 (vp_updL (rs_L zr 31) jt (((rs_L zr 31) jt) + pn.toInt64))) 32 (vp_updL (rs_L zr 32) jt (((rs_L zr 32) jt) + pn.toInt64)))) := by rw [hlf.2]; exact hD.sub [0, 1, 2, 3, 4, 5, 6, 7, 8, 9, 10, 11, 12, 13, 14, 15, 16, 17, 18, 19, 20, 21, 22, 23, 24, 25, 26, 27] (by decide) rfl
                  exact W.lret (v := (vp_updL (rs_L zr 31) jt (((rs_L zr 31) jt) + pn.toInt64)) jt) hx hb hr (fun t ht hW => ⟨⟨(vp_updL (rs_L zr 31) jt (((rs_L zr 31) jt) + pn.toInt64)) jt, (rs_i zr, rs_n zr, rs_I zr, va_up (va_up (rs_L zr) 31 (vp_updL (rs_L zr 31) jt (((rs_L zr 31) jt) + pn.toInt64))) 32 (vp_updL (rs_L zr 32) jt (((rs_L zr 32) jt) + pn.toInt64))), rfl, ⟨hlf.1, (Or.inr (Or.inr (Or.inr (Or.inr (Or.inr (Or.inr (Or.inr (Or.inr (Or.inr (Or.inr (Or.inl ⟨jt, rfl, hjt, c6, c9, c12, c14, c24, c28, rfl, rfl⟩)))))))))))⟩, by rw [ht]; exact hP9, va_K.moved hW.alike hK, hD9⟩, hS.F ht⟩) hS.2.2 dX11_spend_101
          · skip
            refine vp_callSl (va_Run.run (va_runS (As := []) (rest := []) ⟨hx, hb, hml, hown, hts⟩ (c_X11_lost l  ) (va_cwS 0 hts gX11_spend_X11_lost rfl rfl rfl (by decide +kernel) ⟨Nat.le_of_ble_eq_true rfl, Nat.le_of_ble_eq_true rfl⟩) (p0_preS hN) rfl rfl hl.1 rfl (lv_room (Nat.le_of_ble_eq_true rfl)) dX11_spend_39 ⟨Nat.le_of_ble_eq_true rfl, Nat.le_of_ble_eq_true rfl⟩)) (fun r31 hr31 => ?_)
            have hr31 : r31 = (-9223372036854775808) := hr31
            subst hr31
            subst hQ
            exact W.lret (v := (-9223372036854775808)) hx hb hr (fun t ht hW => ⟨⟨(-9223372036854775808), zr, rfl, ⟨hI, (Or.inr (Or.inr (Or.inr (Or.inr (Or.inr (Or.inr (Or.inr (Or.inr (Or.inr (Or.inr (Or.inr ⟨jt, rfl, hjt, c6, c9, c12, rfl, rfl⟩)))))))))))⟩, (by rw [ht]; exact hP0), va_K.moved hW.alike hK, hD0⟩, (by rw [ht]; exact Nat.le_refl _), fun q _ _ => by rw [ht]⟩) (fun q h => absurd h List.not_mem_nil) dX11_spend_42
def pR_taken (zr : RS2) (t : Int32) (wh : Int32) (r : Int32) (u : RS2) : Prop :=
  ((∀ j, j < rs_n zr 2 → t ≠ nI j) ∧ r = ((-1)) ∧ u = zr) ∨
  (∃ jt : Nat, t = nI jt ∧ (jt < rs_n zr 2) ∧ wh = 0 ∧ r = ((rs_I zr 25) jt) ∧ u = zr) ∨
  (∃ jt : Nat, t = nI jt ∧ (jt < rs_n zr 2) ∧ wh = 1 ∧ r = ((rs_I zr 26) jt) ∧ u = zr) ∨
  (∃ jt : Nat, t = nI jt ∧ (jt < rs_n zr 2) ∧ wh = 2 ∧ r = ((rs_I zr 27) jt) ∧ u = zr) ∨
  (∃ jt : Nat, t = nI jt ∧ (jt < rs_n zr 2) ∧ wh = 3 ∧ (((rs_I zr 28) jt) = 0) ∧ r = (0) ∧ u = zr) ∨
  (∃ jt : Nat, t = nI jt ∧ (jt < rs_n zr 2) ∧ wh = 3 ∧ (¬ ((rs_I zr 28) jt) = 0) ∧ r = (1) ∧ u = zr) ∨
  (∃ jt : Nat, t = nI jt ∧ (jt < rs_n zr 2) ∧ wh = 4 ∧ r = (nI (fa_cnt (fun t => decide ((rs_I zr 35) t = (nI jt))) (rs_n zr 3))) ∧ u = zr) ∨
  (∃ jt : Nat, t = nI jt ∧ (jt < rs_n zr 2) ∧ (¬ wh = 0) ∧ (¬ wh = 1) ∧ (¬ wh = 2) ∧ (¬ wh = 3) ∧ (¬ wh = 4) ∧ r = ((-2)) ∧ u = zr)
set_option maxHeartbeats 4000000 in
set_option maxRecDepth 100000 in
theorem M_taken (l : Launch) (dC : Nat → ClassId) (dI : Nat → Nat → Nat) (cI cJ cZ : ClassId) (sz : Nat) (qm : Nat) (ad : Nat → Nat) (zr : RS2) (t : Int32) (wh : Int32) (hI : invR zr) : Met l yX11_taken wsX11_taken ({ frames := 3, cells := 0, slots := 0, locals := 90 }) (pw (dC, dI) [(cI, .int), (cJ, .long), (cZ, .boolean)] (rW qm cI cJ cZ ad zr) sz [.ref qm, .int t, .int wh]) (va_Qi (fun r (u : RS2) => invR u ∧ pR_taken zr t wh r u) (fun u t => bw (dC, dI) [(cI, .int), (cJ, .long), (cZ, .boolean)] (va_A (rW qm cI cJ cZ ad zr) sz) (rW qm cI cJ cZ ad u) t) (va_A (rW qm cI cJ cZ ad zr) sz)) 0 0 (va_A (rW qm cI cJ cZ ad zr) sz) := by
  refine pw_met (cc := cX11_taken) (maxL := 3) (ret := (some .int)) (by decide) rfl (Nat.le_of_ble_eq_true rfl) ?_
  intro p e s m below meth c0 hx hb hr hml hown hlocks hnm hts hP0 hK hD0 hN hsz hA hS ls hl
  subst hsz
  have hP : va_P (dC, dI) vwCl [rcO qm ad zr, rcI cI ad zr 2 48, rcI cI ad zr 3 48, rcI cI ad zr 4 48, rcI cI ad zr 5 48, rcI cI ad zr 7 4, rcI cI ad zr 8 4, rcI cI ad zr 9 192, rcI cI ad zr 10 48, rcI cI ad zr 12 12, rcI cI ad zr 13 12, rcI cI ad zr 14 12, rcI cI ad zr 15 12, rcI cI ad zr 16 12, rcI cI ad zr 18 8, rcJ cJ ad zr 19 8, rcI cI ad zr 25 40, rcI cI ad zr 26 40, rcI cI ad zr 27 40, rcI cZ ad zr 28 40, rcJ cJ ad zr 29 40, rcJ cJ ad zr 30 40, rcJ cJ ad zr 31 40, rcJ cJ ad zr 32 40, rcJ cJ ad zr 33 40, rcI cI ad zr 35 80, rcI cI ad zr 36 80, rcI cI ad zr 37 80] s.heap := hP0
  have hD : va_D (va_A (rW qm cI cJ cZ ad zr) s.heap.size) [rcO qm ad zr, rcI cI ad zr 2 48, rcI cI ad zr 3 48, rcI cI ad zr 4 48, rcI cI ad zr 5 48, rcI cI ad zr 7 4, rcI cI ad zr 8 4, rcI cI ad zr 9 192, rcI cI ad zr 10 48, rcI cI ad zr 12 12, rcI cI ad zr 13 12, rcI cI ad zr 14 12, rcI cI ad zr 15 12, rcI cI ad zr 16 12, rcI cI ad zr 18 8, rcJ cJ ad zr 19 8, rcI cI ad zr 25 40, rcI cI ad zr 26 40, rcI cI ad zr 27 40, rcI cZ ad zr 28 40, rcJ cJ ad zr 29 40, rcJ cJ ad zr 30 40, rcJ cJ ad zr 31 40, rcJ cJ ad zr 32 40, rcJ cJ ad zr 33 40, rcI cI ad zr 35 80, rcI cI ad zr 36 80, rcI cI ad zr 37 80] := hD0
  obtain ⟨⟨hn0, hn1, hn2, hn3⟩, hfar, hlh, hss, hsold, htk, hpk⟩ := id hI
  have hl : lv_has ls 3 [(0, .ref qm), (1, .int t), (2, .int wh)] := hl
  have hiX11 : ∀ w ∈ wsX110, w ∈ wsX11_taken := fun _ h => List.mem_cons_of_mem _ (List.mem_append_right _ (h))
  generalize hQ : MQ _ _ _ _ _ _ _ = Q
  refine lv_aload_n hx hb dX11_taken_0 rfl (lv_at hl 0 rfl) ?_
  refine lv_iload_n hx hb dX11_taken_1 rfl (lv_at hl 1 rfl) ?_
  have hPc := hP.sub (ws' := [rcO qm ad zr]) [0] rfl
  have hDc := hD.sub (ws' := [rcO qm ad zr]) [0] (by decide) rfl
  have hKc := hK.sub (tys' := []) [] rfl
  refine vp_callSi (va_Run.run (va_runV (As := [.int t]) (rest := []) ⟨hx, hb, hml, hown, hts⟩ (r_X11_noTake l dC dI  _ qm (.int (rs_i zr 0)) (.int (rs_i zr 1)) (.ref (ad 2)) (.ref (ad 3)) (.ref (ad 4)) (.ref (ad 5)) (.int (rs_i zr 6)) (.ref (ad 7)) (.ref (ad 8)) (.ref (ad 9)) (.ref (ad 10)) (.int (nI (rs_n zr 0))) (.ref (ad 12)) (.ref (ad 13)) (.ref (ad 14)) (.ref (ad 15)) (.ref (ad 16)) (.int (nI (rs_n zr 1))) (.ref (ad 18)) (.ref (ad 19)) (.int (rs_i zr 20)) (.int (rs_i zr 21)) (.int (rs_i zr 22)) (.int (rs_i zr 23)) (.ref (ad 25)) (.ref (ad 26)) (.ref (ad 27)) (.ref (ad 28)) (.ref (ad 29)) (.ref (ad 30)) (.ref (ad 31)) (.ref (ad 32)) (.ref (ad 33)) (.int (nI (rs_n zr 3))) (.ref (ad 35)) (.ref (ad 36)) (.ref (ad 37)) (.int (rs_i zr 38)) (nI (rs_n zr 2)) t (rs_n zr 2) rfl (by omega)) (cwV 1 hts gX11_taken_X11_noTake rfl rfl rfl (by decide +kernel) ⟨Nat.le_of_ble_eq_true rfl, Nat.le_of_ble_eq_true rfl⟩) (pw_preV (va_recv hKc hPc (ci := 11) (q0 := 0) rfl rfl) hPc hKc hDc hN) rfl rfl hl.1 rfl (lv_room (Nat.le_of_ble_eq_true rfl)) dX11_taken_2 ⟨Nat.le_of_ble_eq_true rfl, Nat.le_of_ble_eq_true rfl⟩)) (fun r1 hr1 => ?_)
  have hr1 : (r1 = 1 ∧ ∀ j, j < (rs_n zr 2) → t ≠ nI j) ∨ (r1 = 0 ∧ ∃ j, j < (rs_n zr 2) ∧ t = nI j) := hr1
  rcases hr1 with ⟨er1, hnojt⟩ | ⟨er1, jt, hjt, egjt⟩
  · subst er1
    refine lv_if_eq (tgt := 10) hx hb dX11_taken_5 (by decide) (fun c2 => ?_) (fun c2 => ?_)
    · exact absurd c2 (by decide)
    · skip
      refine lv_iconst (v := (-1)) hx hb dX11_taken_8 (by decide) ?_
      subst hQ
      exact W.iret (v := (-1)) hx hb hr (fun t ht hW => ⟨⟨(-1), zr, rfl, ⟨hI, (Or.inl ⟨hnojt, rfl, rfl⟩)⟩, (by rw [ht]; exact hP0), va_K.moved hW.alike hK, hD0⟩, (by rw [ht]; exact Nat.le_refl _), fun q _ _ => by rw [ht]⟩) (fun q h => absurd h List.not_mem_nil) dX11_taken_9
  · subst er1
    subst egjt
    refine lv_if_eq (tgt := 10) hx hb dX11_taken_5 (by decide) (fun c3 => ?_) (fun c3 => ?_)
    · skip
      refine lv_iload_n hx hb dX11_taken_10 rfl (lv_at hl 2 rfl) ?_
      by_cases hw4 : wh = 0
      · subst hw4
        refine lv_tableIn (off := 33) (tgt := 44) hx hb dX11_taken_11 (by decide) (by decide) rfl (by decide) ?_
        refine lv_aload_n hx hb dX11_taken_44 rfl (lv_at hl 0 rfl) ?_
        refine va_get (D := (dC, dI)) (ci := 11) (v := .ref (ad 25)) (C := RX11) (T := TX11) (N := 39) hx hb hts hiX11 hown hK hP 0 rfl rfl 25 (by decide) (hts (.fieldLink RX11 56 "TributePitchesModel" "gangOf" "[I") (List.mem_of_getElem? (i := 1) rfl)) (fun _ h9 => h9) rfl dX11_taken_45 ?_
        refine lv_iload_n hx hb dX11_taken_48 rfl (lv_at hl 1 rfl) ?_
        refine va_iald hx hb hK hP 16 0 rfl rfl (vp_in_nI (by omega) (by omega)) dX11_taken_49 ?_
        refine lv_topi (fun v5 ev5 => ?_)
        have ev5 : v5 = (rs_I zr 25) jt := by rw [ev5]; rw [nI_clamp (by omega)]
        subst ev5
        subst hQ
        exact W.iret (v := (rs_I zr 25) jt) hx hb hr (fun t ht hW => ⟨⟨(rs_I zr 25) jt, zr, rfl, ⟨hI, (Or.inr (Or.inl ⟨jt, rfl, hjt, rfl, rfl, rfl⟩))⟩, (by rw [ht]; exact hP0), va_K.moved hW.alike hK, hD0⟩, (by rw [ht]; exact Nat.le_refl _), fun q _ _ => by rw [ht]⟩) (fun q h => absurd h List.not_mem_nil) dX11_taken_50
      by_cases hw6 : wh = 1
      · subst hw6
        refine lv_tableIn (off := 40) (tgt := 51) hx hb dX11_taken_11 (by decide) (by decide) rfl (by decide) ?_
        refine lv_aload_n hx hb dX11_taken_51 rfl (lv_at hl 0 rfl) ?_
        refine va_get (D := (dC, dI)) (ci := 11) (v := .ref (ad 26)) (C := RX11) (T := TX11) (N := 39) hx hb hts hiX11 hown hK hP 0 rfl rfl 26 (by decide) (hts (.fieldLink RX11 59 "TributePitchesModel" "pitchOf" "[I") (List.mem_of_getElem? (i := 2) rfl)) (fun _ h9 => h9) rfl dX11_taken_52 ?_
        refine lv_iload_n hx hb dX11_taken_55 rfl (lv_at hl 1 rfl) ?_
        refine va_iald hx hb hK hP 17 0 rfl rfl (vp_in_nI (by omega) (by omega)) dX11_taken_56 ?_
        refine lv_topi (fun v7 ev7 => ?_)
        have ev7 : v7 = (rs_I zr 26) jt := by rw [ev7]; rw [nI_clamp (by omega)]
        subst ev7
        subst hQ
        exact W.iret (v := (rs_I zr 26) jt) hx hb hr (fun t ht hW => ⟨⟨(rs_I zr 26) jt, zr, rfl, ⟨hI, (Or.inr (Or.inr (Or.inl ⟨jt, rfl, hjt, rfl, rfl, rfl⟩)))⟩, (by rw [ht]; exact hP0), va_K.moved hW.alike hK, hD0⟩, (by rw [ht]; exact Nat.le_refl _), fun q _ _ => by rw [ht]⟩) (fun q h => absurd h List.not_mem_nil) dX11_taken_57
      by_cases hw8 : wh = 2
      · subst hw8
        refine lv_tableIn (off := 47) (tgt := 58) hx hb dX11_taken_11 (by decide) (by decide) rfl (by decide) ?_
        refine lv_aload_n hx hb dX11_taken_58 rfl (lv_at hl 0 rfl) ?_
        refine va_get (D := (dC, dI)) (ci := 11) (v := .ref (ad 27)) (C := RX11) (T := TX11) (N := 39) hx hb hts hiX11 hown hK hP 0 rfl rfl 27 (by decide) (hts (.fieldLink RX11 62 "TributePitchesModel" "shareOf" "[I") (List.mem_of_getElem? (i := 3) rfl)) (fun _ h9 => h9) rfl dX11_taken_59 ?_
        refine lv_iload_n hx hb dX11_taken_62 rfl (lv_at hl 1 rfl) ?_
        refine va_iald hx hb hK hP 18 0 rfl rfl (vp_in_nI (by omega) (by omega)) dX11_taken_63 ?_
        refine lv_topi (fun v9 ev9 => ?_)
        have ev9 : v9 = (rs_I zr 27) jt := by rw [ev9]; rw [nI_clamp (by omega)]
        subst ev9
        subst hQ
        exact W.iret (v := (rs_I zr 27) jt) hx hb hr (fun t ht hW => ⟨⟨(rs_I zr 27) jt, zr, rfl, ⟨hI, (Or.inr (Or.inr (Or.inr (Or.inl ⟨jt, rfl, hjt, rfl, rfl, rfl⟩))))⟩, (by rw [ht]; exact hP0), va_K.moved hW.alike hK, hD0⟩, (by rw [ht]; exact Nat.le_refl _), fun q _ _ => by rw [ht]⟩) (fun q h => absurd h List.not_mem_nil) dX11_taken_64
      by_cases hw10 : wh = 3
      · subst hw10
        refine lv_tableIn (off := 54) (tgt := 65) hx hb dX11_taken_11 (by decide) (by decide) rfl (by decide) ?_
        refine lv_aload_n hx hb dX11_taken_65 rfl (lv_at hl 0 rfl) ?_
        refine va_get (D := (dC, dI)) (ci := 11) (v := .ref (ad 28)) (C := RX11) (T := TX11) (N := 39) hx hb hts hiX11 hown hK hP 0 rfl rfl 28 (by decide) (hts (.fieldLink RX11 65 "TributePitchesModel" "isSettled" "[Z") (List.mem_of_getElem? (i := 4) rfl)) (fun _ h9 => h9) rfl dX11_taken_66 ?_
        refine lv_iload_n hx hb dX11_taken_69 rfl (lv_at hl 1 rfl) ?_
        refine va_zald hx hb hK hP 19 2 rfl rfl (vp_in_nI (by omega) (by omega)) dX11_taken_70 ?_
        refine lv_topi (fun v11 ev11 => ?_)
        have ev11 : v11 = (rs_I zr 28) jt := by rw [ev11]; rw [nI_clamp (by omega)]
        subst ev11
        refine lv_if_eq (tgt := 78) hx hb dX11_taken_71 (by decide) (fun c12 => ?_) (fun c12 => ?_)
        · skip
          refine lv_iconst (v := 0) hx hb dX11_taken_78 (by decide) ?_
          subst hQ
          exact W.iret (v := 0) hx hb hr (fun t ht hW => ⟨⟨0, zr, rfl, ⟨hI, (Or.inr (Or.inr (Or.inr (Or.inr (Or.inl ⟨jt, rfl, hjt, rfl, c12, rfl, rfl⟩)))))⟩, (by rw [ht]; exact hP0), va_K.moved hW.alike hK, hD0⟩, (by rw [ht]; exact Nat.le_refl _), fun q _ _ => by rw [ht]⟩) (fun q h => absurd h List.not_mem_nil) dX11_taken_79
        · skip
          refine lv_iconst (v := 1) hx hb dX11_taken_74 (by decide) ?_
          refine lv_goto (tgt := 79) hx hb dX11_taken_75 (by decide) ?_
          subst hQ
          exact W.iret (v := 1) hx hb hr (fun t ht hW => ⟨⟨1, zr, rfl, ⟨hI, (Or.inr (Or.inr (Or.inr (Or.inr (Or.inr (Or.inl ⟨jt, rfl, hjt, rfl, c12, rfl, rfl⟩))))))⟩, (by rw [ht]; exact hP0), va_K.moved hW.alike hK, hD0⟩, (by rw [ht]; exact Nat.le_refl _), fun q _ _ => by rw [ht]⟩) (fun q h => absurd h List.not_mem_nil) dX11_taken_79
      by_cases hw13 : wh = 4
      · subst hw13
        refine lv_tableIn (off := 69) (tgt := 80) hx hb dX11_taken_11 (by decide) (by decide) rfl (by decide) ?_
        refine lv_aload_n hx hb dX11_taken_80 rfl (lv_at hl 0 rfl) ?_
        refine lv_iload_n hx hb dX11_taken_81 rfl (lv_at hl 1 rfl) ?_
        have hPc := hP.sub (ws' := [rcO qm ad zr, rcI cI ad zr 35 80]) [0, 25] rfl
        have hDc := hD.sub (ws' := [rcO qm ad zr, rcI cI ad zr 35 80]) [0, 25] (by decide) rfl
        have hKc := hK.sub (tys' := [(cI, .int)]) [0] rfl
        refine vp_callSi (va_Run.run (va_runV (As := [.int (nI jt)]) (rest := []) ⟨hx, hb, hml, hown, hts⟩ (r_X11_parcelsOf l dC dI cI _ qm (.int (rs_i zr 0)) (.int (rs_i zr 1)) (.ref (ad 2)) (.ref (ad 3)) (.ref (ad 4)) (.ref (ad 5)) (.int (rs_i zr 6)) (.ref (ad 7)) (.ref (ad 8)) (.ref (ad 9)) (.ref (ad 10)) (.int (nI (rs_n zr 0))) (.ref (ad 12)) (.ref (ad 13)) (.ref (ad 14)) (.ref (ad 15)) (.ref (ad 16)) (.int (nI (rs_n zr 1))) (.ref (ad 18)) (.ref (ad 19)) (.int (rs_i zr 20)) (.int (rs_i zr 21)) (.int (rs_i zr 22)) (.int (rs_i zr 23)) (.int (nI (rs_n zr 2))) (.ref (ad 25)) (.ref (ad 26)) (.ref (ad 27)) (.ref (ad 28)) (.ref (ad 29)) (.ref (ad 30)) (.ref (ad 31)) (.ref (ad 32)) (.ref (ad 33)) (.ref (ad 36)) (.ref (ad 37)) (.int (rs_i zr 38)) (ad 35) (nI (rs_n zr 3)) (nI jt) (rs_n zr 3) (rs_I zr 35) rfl (by omega)) (cwV 1 hts gX11_taken_X11_parcelsOf rfl rfl rfl (by decide +kernel) ⟨Nat.le_of_ble_eq_true rfl, Nat.le_of_ble_eq_true rfl⟩) (pw_preV (va_recv hKc hPc (ci := 11) (q0 := 0) rfl rfl) hPc hKc hDc hN) rfl rfl hl.1 rfl (lv_room (Nat.le_of_ble_eq_true rfl)) dX11_taken_82 ⟨Nat.le_of_ble_eq_true rfl, Nat.le_of_ble_eq_true rfl⟩)) (fun r14 hr14 => ?_)
        have hr14 : r14 = nI (fa_cnt (fun t => decide ((rs_I zr 35) t = (nI jt))) (rs_n zr 3)) := hr14
        have hr14 := hr14.symm
        subst hr14
        refine W.eq (g2 := F0 m 85 ls [.int (nI (fa_cnt (fun t => decide ((rs_I zr 35) t = (nI jt))) (rs_n zr 3)))]) rfl ?_
        subst hQ
        exact W.iret (v := nI (fa_cnt (fun t => decide ((rs_I zr 35) t = (nI jt))) (rs_n zr 3))) hx hb hr (fun t ht hW => ⟨⟨nI (fa_cnt (fun t => decide ((rs_I zr 35) t = (nI jt))) (rs_n zr 3)), zr, rfl, ⟨hI, (Or.inr (Or.inr (Or.inr (Or.inr (Or.inr (Or.inr (Or.inl ⟨jt, rfl, hjt, rfl, rfl, rfl⟩)))))))⟩, (by rw [ht]; exact hP0), va_K.moved hW.alike hK, hD0⟩, (by rw [ht]; exact Nat.le_refl _), fun q _ _ => by rw [ht]⟩) (fun q h => absurd h List.not_mem_nil) dX11_taken_85
      refine lv_tableOut (tgt := 86) hx hb dX11_taken_11 (tb_out5 hw4 hw6 hw8 hw10 hw13) (by decide) ?_
      refine lv_bipush (v := (-2)) hx hb dX11_taken_86 (by decide) ?_
      subst hQ
      exact W.iret (v := (-2)) hx hb hr (fun t ht hW => ⟨⟨(-2), zr, rfl, ⟨hI, (Or.inr (Or.inr (Or.inr (Or.inr (Or.inr (Or.inr (Or.inr ⟨jt, rfl, hjt, hw4, hw6, hw8, hw10, hw13, rfl, rfl⟩)))))))⟩, (by rw [ht]; exact hP0), va_K.moved hW.alike hK, hD0⟩, (by rw [ht]; exact Nat.le_refl _), fun q _ _ => by rw [ht]⟩) (fun q h => absurd h List.not_mem_nil) dX11_taken_88
    · exact absurd c3 (by decide)
def pR_money (zr : RS2) (t : Int32) (wh : Int32) (r : Int64) (u : RS2) : Prop :=
  ((∀ j, j < rs_n zr 2 → t ≠ nI j) ∧ r = ((-9223372036854775808)) ∧ u = zr) ∨
  (∃ jt : Nat, t = nI jt ∧ (jt < rs_n zr 2) ∧ wh = 0 ∧ r = (wsum (rs_I zr 35) (rs_I zr 36) (rs_I zr 37) (nI jt) (rs_n zr 3)) ∧ u = zr) ∨
  (∃ jt : Nat, t = nI jt ∧ (jt < rs_n zr 2) ∧ wh = 1 ∧ r = ((rs_L zr 31) jt) ∧ u = zr) ∨
  (∃ jt : Nat, t = nI jt ∧ (jt < rs_n zr 2) ∧ wh = 2 ∧ r = ((rs_L zr 32) jt) ∧ u = zr) ∨
  (∃ jt : Nat, t = nI jt ∧ (jt < rs_n zr 2) ∧ wh = 3 ∧ r = ((rs_L zr 33) jt) ∧ u = zr) ∨
  (∃ jt : Nat, t = nI jt ∧ (jt < rs_n zr 2) ∧ wh = 4 ∧ r = ((rs_L zr 29) jt) ∧ u = zr) ∨
  (∃ jt : Nat, t = nI jt ∧ (jt < rs_n zr 2) ∧ wh = 5 ∧ r = ((rs_L zr 30) jt) ∧ u = zr) ∨
  (∃ jt : Nat, t = nI jt ∧ (jt < rs_n zr 2) ∧ (¬ wh = 0) ∧ (¬ wh = 1) ∧ (¬ wh = 2) ∧ (¬ wh = 3) ∧ (¬ wh = 4) ∧ (¬ wh = 5) ∧ r = ((-9223372036854775808)) ∧ u = zr)
set_option maxHeartbeats 4000000 in
set_option maxRecDepth 100000 in
theorem M_money (l : Launch) (dC : Nat → ClassId) (dI : Nat → Nat → Nat) (cI cJ cZ : ClassId) (sz : Nat) (qm : Nat) (ad : Nat → Nat) (zr : RS2) (t : Int32) (wh : Int32) (hI : invR zr) : Met l yX11_money wsX11_money ({ frames := 3, cells := 0, slots := 0, locals := 90 }) (pw (dC, dI) [(cI, .int), (cJ, .long), (cZ, .boolean)] (rW qm cI cJ cZ ad zr) sz [.ref qm, .int t, .int wh]) (va_Ql (fun r (u : RS2) => invR u ∧ pR_money zr t wh r u) (fun u t => bw (dC, dI) [(cI, .int), (cJ, .long), (cZ, .boolean)] (va_A (rW qm cI cJ cZ ad zr) sz) (rW qm cI cJ cZ ad u) t) (va_A (rW qm cI cJ cZ ad zr) sz)) 0 0 (va_A (rW qm cI cJ cZ ad zr) sz) := by
  refine pw_met (cc := cX11_money) (maxL := 3) (ret := (some .long)) (by decide) rfl (Nat.le_of_ble_eq_true rfl) ?_
  intro p e s m below meth c0 hx hb hr hml hown hlocks hnm hts hP0 hK hD0 hN hsz hA hS ls hl
  subst hsz
  have hP : va_P (dC, dI) vwCl [rcO qm ad zr, rcI cI ad zr 2 48, rcI cI ad zr 3 48, rcI cI ad zr 4 48, rcI cI ad zr 5 48, rcI cI ad zr 7 4, rcI cI ad zr 8 4, rcI cI ad zr 9 192, rcI cI ad zr 10 48, rcI cI ad zr 12 12, rcI cI ad zr 13 12, rcI cI ad zr 14 12, rcI cI ad zr 15 12, rcI cI ad zr 16 12, rcI cI ad zr 18 8, rcJ cJ ad zr 19 8, rcI cI ad zr 25 40, rcI cI ad zr 26 40, rcI cI ad zr 27 40, rcI cZ ad zr 28 40, rcJ cJ ad zr 29 40, rcJ cJ ad zr 30 40, rcJ cJ ad zr 31 40, rcJ cJ ad zr 32 40, rcJ cJ ad zr 33 40, rcI cI ad zr 35 80, rcI cI ad zr 36 80, rcI cI ad zr 37 80] s.heap := hP0
  have hD : va_D (va_A (rW qm cI cJ cZ ad zr) s.heap.size) [rcO qm ad zr, rcI cI ad zr 2 48, rcI cI ad zr 3 48, rcI cI ad zr 4 48, rcI cI ad zr 5 48, rcI cI ad zr 7 4, rcI cI ad zr 8 4, rcI cI ad zr 9 192, rcI cI ad zr 10 48, rcI cI ad zr 12 12, rcI cI ad zr 13 12, rcI cI ad zr 14 12, rcI cI ad zr 15 12, rcI cI ad zr 16 12, rcI cI ad zr 18 8, rcJ cJ ad zr 19 8, rcI cI ad zr 25 40, rcI cI ad zr 26 40, rcI cI ad zr 27 40, rcI cZ ad zr 28 40, rcJ cJ ad zr 29 40, rcJ cJ ad zr 30 40, rcJ cJ ad zr 31 40, rcJ cJ ad zr 32 40, rcJ cJ ad zr 33 40, rcI cI ad zr 35 80, rcI cI ad zr 36 80, rcI cI ad zr 37 80] := hD0
  obtain ⟨⟨hn0, hn1, hn2, hn3⟩, hfar, hlh, hss, hsold, htk, hpk⟩ := id hI
  have hl : lv_has ls 3 [(0, .ref qm), (1, .int t), (2, .int wh)] := hl
  have hiX11 : ∀ w ∈ wsX110, w ∈ wsX11_money := fun _ h => List.mem_cons_of_mem _ (List.mem_append_right _ (h))
  generalize hQ : MQ _ _ _ _ _ _ _ = Q
  refine lv_aload_n hx hb dX11_money_0 rfl (lv_at hl 0 rfl) ?_
  refine lv_iload_n hx hb dX11_money_1 rfl (lv_at hl 1 rfl) ?_
  have hPc := hP.sub (ws' := [rcO qm ad zr]) [0] rfl
  have hDc := hD.sub (ws' := [rcO qm ad zr]) [0] (by decide) rfl
  have hKc := hK.sub (tys' := []) [] rfl
  refine vp_callSi (va_Run.run (va_runV (As := [.int t]) (rest := []) ⟨hx, hb, hml, hown, hts⟩ (r_X11_noTake l dC dI  _ qm (.int (rs_i zr 0)) (.int (rs_i zr 1)) (.ref (ad 2)) (.ref (ad 3)) (.ref (ad 4)) (.ref (ad 5)) (.int (rs_i zr 6)) (.ref (ad 7)) (.ref (ad 8)) (.ref (ad 9)) (.ref (ad 10)) (.int (nI (rs_n zr 0))) (.ref (ad 12)) (.ref (ad 13)) (.ref (ad 14)) (.ref (ad 15)) (.ref (ad 16)) (.int (nI (rs_n zr 1))) (.ref (ad 18)) (.ref (ad 19)) (.int (rs_i zr 20)) (.int (rs_i zr 21)) (.int (rs_i zr 22)) (.int (rs_i zr 23)) (.ref (ad 25)) (.ref (ad 26)) (.ref (ad 27)) (.ref (ad 28)) (.ref (ad 29)) (.ref (ad 30)) (.ref (ad 31)) (.ref (ad 32)) (.ref (ad 33)) (.int (nI (rs_n zr 3))) (.ref (ad 35)) (.ref (ad 36)) (.ref (ad 37)) (.int (rs_i zr 38)) (nI (rs_n zr 2)) t (rs_n zr 2) rfl (by omega)) (cwV 1 hts gX11_money_X11_noTake rfl rfl rfl (by decide +kernel) ⟨Nat.le_of_ble_eq_true rfl, Nat.le_of_ble_eq_true rfl⟩) (pw_preV (va_recv hKc hPc (ci := 11) (q0 := 0) rfl rfl) hPc hKc hDc hN) rfl rfl hl.1 rfl (lv_room (Nat.le_of_ble_eq_true rfl)) dX11_money_2 ⟨Nat.le_of_ble_eq_true rfl, Nat.le_of_ble_eq_true rfl⟩)) (fun r1 hr1 => ?_)
  have hr1 : (r1 = 1 ∧ ∀ j, j < (rs_n zr 2) → t ≠ nI j) ∨ (r1 = 0 ∧ ∃ j, j < (rs_n zr 2) ∧ t = nI j) := hr1
  rcases hr1 with ⟨er1, hnojt⟩ | ⟨er1, jt, hjt, egjt⟩
  · subst er1
    refine lv_if_eq (tgt := 12) hx hb dX11_money_5 (by decide) (fun c2 => ?_) (fun c2 => ?_)
    · exact absurd c2 (by decide)
    · skip
      refine vp_callSl (va_Run.run (va_runS (As := []) (rest := []) ⟨hx, hb, hml, hown, hts⟩ (c_X11_lost l  ) (va_cwS 0 hts gX11_money_X11_lost rfl rfl rfl (by decide +kernel) ⟨Nat.le_of_ble_eq_true rfl, Nat.le_of_ble_eq_true rfl⟩) (p0_preS hN) rfl rfl hl.1 rfl (lv_room (Nat.le_of_ble_eq_true rfl)) dX11_money_8 ⟨Nat.le_of_ble_eq_true rfl, Nat.le_of_ble_eq_true rfl⟩)) (fun r3 hr3 => ?_)
      have hr3 : r3 = (-9223372036854775808) := hr3
      subst hr3
      subst hQ
      exact W.lret (v := (-9223372036854775808)) hx hb hr (fun t ht hW => ⟨⟨(-9223372036854775808), zr, rfl, ⟨hI, (Or.inl ⟨hnojt, rfl, rfl⟩)⟩, (by rw [ht]; exact hP0), va_K.moved hW.alike hK, hD0⟩, (by rw [ht]; exact Nat.le_refl _), fun q _ _ => by rw [ht]⟩) (fun q h => absurd h List.not_mem_nil) dX11_money_11
  · subst er1
    subst egjt
    refine lv_if_eq (tgt := 12) hx hb dX11_money_5 (by decide) (fun c4 => ?_) (fun c4 => ?_)
    · skip
      refine lv_iload_n hx hb dX11_money_12 rfl (lv_at hl 2 rfl) ?_
      by_cases hw5 : wh = 0
      · subst hw5
        refine lv_tableIn (off := 39) (tgt := 52) hx hb dX11_money_13 (by decide) (by decide) rfl (by decide) ?_
        refine lv_aload_n hx hb dX11_money_52 rfl (lv_at hl 0 rfl) ?_
        refine lv_iload_n hx hb dX11_money_53 rfl (lv_at hl 1 rfl) ?_
        have hPc := hP.sub (ws' := [rcO qm ad zr, rcI cI ad zr 35 80, rcI cI ad zr 36 80, rcI cI ad zr 37 80]) [0, 25, 26, 27] rfl
        have hDc := hD.sub (ws' := [rcO qm ad zr, rcI cI ad zr 35 80, rcI cI ad zr 36 80, rcI cI ad zr 37 80]) [0, 25, 26, 27] (by decide) rfl
        have hKc := hK.sub (tys' := [(cI, .int)]) [0] rfl
        refine vp_callSl (va_Run.run (va_runV (As := [.int (nI jt)]) (rest := []) ⟨hx, hb, hml, hown, hts⟩ (r_X11_worthOf l dC dI cI _ qm (.int (rs_i zr 0)) (.int (rs_i zr 1)) (.ref (ad 2)) (.ref (ad 3)) (.ref (ad 4)) (.ref (ad 5)) (.int (rs_i zr 6)) (.ref (ad 7)) (.ref (ad 8)) (.ref (ad 9)) (.ref (ad 10)) (.int (nI (rs_n zr 0))) (.ref (ad 12)) (.ref (ad 13)) (.ref (ad 14)) (.ref (ad 15)) (.ref (ad 16)) (.int (nI (rs_n zr 1))) (.ref (ad 18)) (.ref (ad 19)) (.int (rs_i zr 20)) (.int (rs_i zr 21)) (.int (rs_i zr 22)) (.int (rs_i zr 23)) (.int (nI (rs_n zr 2))) (.ref (ad 25)) (.ref (ad 26)) (.ref (ad 27)) (.ref (ad 28)) (.ref (ad 29)) (.ref (ad 30)) (.ref (ad 31)) (.ref (ad 32)) (.ref (ad 33)) (.int (rs_i zr 38)) (ad 35) (ad 36) (ad 37) (nI (rs_n zr 3)) (nI jt) (rs_n zr 3) (rs_I zr 35) (rs_I zr 36) (rs_I zr 37) rfl (by omega)) (cwV 1 hts gX11_money_X11_worthOf rfl rfl rfl (by decide +kernel) ⟨Nat.le_of_ble_eq_true rfl, Nat.le_of_ble_eq_true rfl⟩) (pw_preV (va_recv hKc hPc (ci := 11) (q0 := 0) rfl rfl) hPc hKc hDc hN) rfl rfl hl.1 rfl (lv_room (Nat.le_of_ble_eq_true rfl)) dX11_money_54 ⟨Nat.le_of_ble_eq_true rfl, Nat.le_of_ble_eq_true rfl⟩)) (fun r6 hr6 => ?_)
        have hr6 : r6 = wsum (rs_I zr 35) (rs_I zr 36) (rs_I zr 37) (nI jt) (rs_n zr 3) := hr6
        have hr6 := hr6.symm
        subst hr6
        refine W.eq (g2 := F0 m 57 ls [.long (wsum (rs_I zr 35) (rs_I zr 36) (rs_I zr 37) (nI jt) (rs_n zr 3))]) rfl ?_
        subst hQ
        exact W.lret (v := wsum (rs_I zr 35) (rs_I zr 36) (rs_I zr 37) (nI jt) (rs_n zr 3)) hx hb hr (fun t ht hW => ⟨⟨wsum (rs_I zr 35) (rs_I zr 36) (rs_I zr 37) (nI jt) (rs_n zr 3), zr, rfl, ⟨hI, (Or.inr (Or.inl ⟨jt, rfl, hjt, rfl, rfl, rfl⟩))⟩, (by rw [ht]; exact hP0), va_K.moved hW.alike hK, hD0⟩, (by rw [ht]; exact Nat.le_refl _), fun q _ _ => by rw [ht]⟩) (fun q h => absurd h List.not_mem_nil) dX11_money_57
      by_cases hw7 : wh = 1
      · subst hw7
        refine lv_tableIn (off := 45) (tgt := 58) hx hb dX11_money_13 (by decide) (by decide) rfl (by decide) ?_
        refine lv_aload_n hx hb dX11_money_58 rfl (lv_at hl 0 rfl) ?_
        refine va_get (D := (dC, dI)) (ci := 11) (v := .ref (ad 31)) (C := RX11) (T := TX11) (N := 39) hx hb hts hiX11 hown hK hP 0 rfl rfl 31 (by decide) (hts (.fieldLink RX11 75 "TributePitchesModel" "costs" "[J") (List.mem_of_getElem? (i := 1) rfl)) (fun _ h9 => h9) rfl dX11_money_59 ?_
        refine lv_iload_n hx hb dX11_money_62 rfl (lv_at hl 1 rfl) ?_
        refine va_lald hx hb hK hP 22 1 rfl rfl (vp_in_nI (by omega) (by omega)) dX11_money_63 ?_
        refine lv_topl (fun v8 ev8 => ?_)
        have ev8 : v8 = (rs_L zr 31) jt := by rw [ev8]; rw [nI_clamp (by omega)]
        subst ev8
        subst hQ
        exact W.lret (v := (rs_L zr 31) jt) hx hb hr (fun t ht hW => ⟨⟨(rs_L zr 31) jt, zr, rfl, ⟨hI, (Or.inr (Or.inr (Or.inl ⟨jt, rfl, hjt, rfl, rfl, rfl⟩)))⟩, (by rw [ht]; exact hP0), va_K.moved hW.alike hK, hD0⟩, (by rw [ht]; exact Nat.le_refl _), fun q _ _ => by rw [ht]⟩) (fun q h => absurd h List.not_mem_nil) dX11_money_64
      by_cases hw9 : wh = 2
      · subst hw9
        refine lv_tableIn (off := 52) (tgt := 65) hx hb dX11_money_13 (by decide) (by decide) rfl (by decide) ?_
        refine lv_aload_n hx hb dX11_money_65 rfl (lv_at hl 0 rfl) ?_
        refine va_get (D := (dC, dI)) (ci := 11) (v := .ref (ad 32)) (C := RX11) (T := TX11) (N := 39) hx hb hts hiX11 hown hK hP 0 rfl rfl 32 (by decide) (hts (.fieldLink RX11 78 "TributePitchesModel" "ahead" "[J") (List.mem_of_getElem? (i := 2) rfl)) (fun _ h9 => h9) rfl dX11_money_66 ?_
        refine lv_iload_n hx hb dX11_money_69 rfl (lv_at hl 1 rfl) ?_
        refine va_lald hx hb hK hP 23 1 rfl rfl (vp_in_nI (by omega) (by omega)) dX11_money_70 ?_
        refine lv_topl (fun v10 ev10 => ?_)
        have ev10 : v10 = (rs_L zr 32) jt := by rw [ev10]; rw [nI_clamp (by omega)]
        subst ev10
        subst hQ
        exact W.lret (v := (rs_L zr 32) jt) hx hb hr (fun t ht hW => ⟨⟨(rs_L zr 32) jt, zr, rfl, ⟨hI, (Or.inr (Or.inr (Or.inr (Or.inl ⟨jt, rfl, hjt, rfl, rfl, rfl⟩))))⟩, (by rw [ht]; exact hP0), va_K.moved hW.alike hK, hD0⟩, (by rw [ht]; exact Nat.le_refl _), fun q _ _ => by rw [ht]⟩) (fun q h => absurd h List.not_mem_nil) dX11_money_71
      by_cases hw11 : wh = 3
      · subst hw11
        refine lv_tableIn (off := 59) (tgt := 72) hx hb dX11_money_13 (by decide) (by decide) rfl (by decide) ?_
        refine lv_aload_n hx hb dX11_money_72 rfl (lv_at hl 0 rfl) ?_
        refine va_get (D := (dC, dI)) (ci := 11) (v := .ref (ad 33)) (C := RX11) (T := TX11) (N := 39) hx hb hts hiX11 hown hK hP 0 rfl rfl 33 (by decide) (hts (.fieldLink RX11 81 "TributePitchesModel" "pay" "[J") (List.mem_of_getElem? (i := 3) rfl)) (fun _ h9 => h9) rfl dX11_money_73 ?_
        refine lv_iload_n hx hb dX11_money_76 rfl (lv_at hl 1 rfl) ?_
        refine va_lald hx hb hK hP 24 1 rfl rfl (vp_in_nI (by omega) (by omega)) dX11_money_77 ?_
        refine lv_topl (fun v12 ev12 => ?_)
        have ev12 : v12 = (rs_L zr 33) jt := by rw [ev12]; rw [nI_clamp (by omega)]
        subst ev12
        subst hQ
        exact W.lret (v := (rs_L zr 33) jt) hx hb hr (fun t ht hW => ⟨⟨(rs_L zr 33) jt, zr, rfl, ⟨hI, (Or.inr (Or.inr (Or.inr (Or.inr (Or.inl ⟨jt, rfl, hjt, rfl, rfl, rfl⟩)))))⟩, (by rw [ht]; exact hP0), va_K.moved hW.alike hK, hD0⟩, (by rw [ht]; exact Nat.le_refl _), fun q _ _ => by rw [ht]⟩) (fun q h => absurd h List.not_mem_nil) dX11_money_78
      by_cases hw13 : wh = 4
      · subst hw13
        refine lv_tableIn (off := 66) (tgt := 79) hx hb dX11_money_13 (by decide) (by decide) rfl (by decide) ?_
        refine lv_aload_n hx hb dX11_money_79 rfl (lv_at hl 0 rfl) ?_
        refine va_get (D := (dC, dI)) (ci := 11) (v := .ref (ad 29)) (C := RX11) (T := TX11) (N := 39) hx hb hts hiX11 hown hK hP 0 rfl rfl 29 (by decide) (hts (.fieldLink RX11 69 "TributePitchesModel" "least" "[J") (List.mem_of_getElem? (i := 4) rfl)) (fun _ h9 => h9) rfl dX11_money_80 ?_
        refine lv_iload_n hx hb dX11_money_83 rfl (lv_at hl 1 rfl) ?_
        refine va_lald hx hb hK hP 20 1 rfl rfl (vp_in_nI (by omega) (by omega)) dX11_money_84 ?_
        refine lv_topl (fun v14 ev14 => ?_)
        have ev14 : v14 = (rs_L zr 29) jt := by rw [ev14]; rw [nI_clamp (by omega)]
        subst ev14
        subst hQ
        exact W.lret (v := (rs_L zr 29) jt) hx hb hr (fun t ht hW => ⟨⟨(rs_L zr 29) jt, zr, rfl, ⟨hI, (Or.inr (Or.inr (Or.inr (Or.inr (Or.inr (Or.inl ⟨jt, rfl, hjt, rfl, rfl, rfl⟩))))))⟩, (by rw [ht]; exact hP0), va_K.moved hW.alike hK, hD0⟩, (by rw [ht]; exact Nat.le_refl _), fun q _ _ => by rw [ht]⟩) (fun q h => absurd h List.not_mem_nil) dX11_money_85
      by_cases hw15 : wh = 5
      · subst hw15
        refine lv_tableIn (off := 73) (tgt := 86) hx hb dX11_money_13 (by decide) (by decide) rfl (by decide) ?_
        refine lv_aload_n hx hb dX11_money_86 rfl (lv_at hl 0 rfl) ?_
        refine va_get (D := (dC, dI)) (ci := 11) (v := .ref (ad 30)) (C := RX11) (T := TX11) (N := 39) hx hb hts hiX11 hown hK hP 0 rfl rfl 30 (by decide) (hts (.fieldLink RX11 72 "TributePitchesModel" "greatest" "[J") (List.mem_of_getElem? (i := 5) rfl)) (fun _ h9 => h9) rfl dX11_money_87 ?_
        refine lv_iload_n hx hb dX11_money_90 rfl (lv_at hl 1 rfl) ?_
        refine va_lald hx hb hK hP 21 1 rfl rfl (vp_in_nI (by omega) (by omega)) dX11_money_91 ?_
        refine lv_topl (fun v16 ev16 => ?_)
        have ev16 : v16 = (rs_L zr 30) jt := by rw [ev16]; rw [nI_clamp (by omega)]
        subst ev16
        subst hQ
        exact W.lret (v := (rs_L zr 30) jt) hx hb hr (fun t ht hW => ⟨⟨(rs_L zr 30) jt, zr, rfl, ⟨hI, (Or.inr (Or.inr (Or.inr (Or.inr (Or.inr (Or.inr (Or.inl ⟨jt, rfl, hjt, rfl, rfl, rfl⟩)))))))⟩, (by rw [ht]; exact hP0), va_K.moved hW.alike hK, hD0⟩, (by rw [ht]; exact Nat.le_refl _), fun q _ _ => by rw [ht]⟩) (fun q h => absurd h List.not_mem_nil) dX11_money_92
      refine lv_tableOut (tgt := 93) hx hb dX11_money_13 (tb_out6 hw5 hw7 hw9 hw11 hw13 hw15) (by decide) ?_
      refine vp_callSl (va_Run.run (va_runS (As := []) (rest := []) ⟨hx, hb, hml, hown, hts⟩ (c_X11_lost l  ) (va_cwS 0 hts gX11_money_X11_lost rfl rfl rfl (by decide +kernel) ⟨Nat.le_of_ble_eq_true rfl, Nat.le_of_ble_eq_true rfl⟩) (p0_preS hN) rfl rfl hl.1 rfl (lv_room (Nat.le_of_ble_eq_true rfl)) dX11_money_93 ⟨Nat.le_of_ble_eq_true rfl, Nat.le_of_ble_eq_true rfl⟩)) (fun r17 hr17 => ?_)
      have hr17 : r17 = (-9223372036854775808) := hr17
      subst hr17
      subst hQ
      exact W.lret (v := (-9223372036854775808)) hx hb hr (fun t ht hW => ⟨⟨(-9223372036854775808), zr, rfl, ⟨hI, (Or.inr (Or.inr (Or.inr (Or.inr (Or.inr (Or.inr (Or.inr ⟨jt, rfl, hjt, hw5, hw7, hw9, hw11, hw13, hw15, rfl, rfl⟩)))))))⟩, (by rw [ht]; exact hP0), va_K.moved hW.alike hK, hD0⟩, (by rw [ht]; exact Nat.le_refl _), fun q _ _ => by rw [ht]⟩) (fun q h => absurd h List.not_mem_nil) dX11_money_96
    · exact absurd c4 (by decide)
