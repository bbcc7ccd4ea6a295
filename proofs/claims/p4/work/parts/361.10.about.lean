def pR_about (zr : RS2) (pp : Int32) (wh : Int32) (r : Int32) (u : RS2) : Prop :=
  ((∀ j, j < rs_n zr 0 → pp ≠ nI j) ∧ r = ((-1)) ∧ u = zr) ∨
  (∃ jp : Nat, pp = nI jp ∧ (jp < rs_n zr 0) ∧ wh = 0 ∧ r = ((rs_I zr 12) jp) ∧ u = zr) ∨
  (∃ jp : Nat, pp = nI jp ∧ (jp < rs_n zr 0) ∧ wh = 1 ∧ r = ((rs_I zr 13) jp) ∧ u = zr) ∨
  (∃ jp : Nat, pp = nI jp ∧ (jp < rs_n zr 0) ∧ wh = 2 ∧ r = ((rs_I zr 14) jp) ∧ u = zr) ∨
  (∃ jp : Nat, pp = nI jp ∧ (jp < rs_n zr 0) ∧ wh = 3 ∧ r = ((rs_I zr 15) jp) ∧ u = zr) ∨
  (∃ jp : Nat, pp = nI jp ∧ (jp < rs_n zr 0) ∧ wh = 4 ∧ r = ((rs_I zr 16) jp) ∧ u = zr) ∨
  (∃ jp : Nat, pp = nI jp ∧ (jp < rs_n zr 0) ∧ wh = 5 ∧ ∃ r15 : Int32, ((r15 = -9 ∧ ∀ u, u < (rs_n zr 2) → ¬ ((rs_I zr 26) u = (nI jp) ∧ (rs_I zr 28) u = 0)) ∨ (∃ u, u < (rs_n zr 2) ∧ r15 = nI u ∧ ((rs_I zr 26) u = (nI jp) ∧ (rs_I zr 28) u = 0) ∧ ∀ v, v < u → ¬ ((rs_I zr 26) v = (nI jp) ∧ (rs_I zr 28) v = 0))) ∧ r = (r15) ∧ u = zr) ∨
  (∃ jp : Nat, pp = nI jp ∧ (jp < rs_n zr 0) ∧ wh = 6 ∧ r = (nI (fa_cnt (fun t => decide ((rs_I zr 26) t = (nI jp))) (rs_n zr 2))) ∧ u = zr) ∨
  (∃ jp : Nat, pp = nI jp ∧ (jp < rs_n zr 0) ∧ (¬ wh = 0) ∧ (¬ wh = 1) ∧ (¬ wh = 2) ∧ (¬ wh = 3) ∧ (¬ wh = 4) ∧ (¬ wh = 5) ∧ (¬ wh = 6) ∧ r = ((-2)) ∧ u = zr)
set_option maxHeartbeats 4000000 in
set_option maxRecDepth 100000 in
theorem M_about (l : Launch) (dC : Nat → ClassId) (dI : Nat → Nat → Nat) (cI cJ cZ : ClassId) (sz : Nat) (qm : Nat) (ad : Nat → Nat) (zr : RS2) (pp : Int32) (wh : Int32) (hI : invR zr) : Met l yX11_about wsX11_about ({ frames := 3, cells := 0, slots := 0, locals := 90 }) (pw (dC, dI) [(cI, .int), (cJ, .long), (cZ, .boolean)] (rW qm cI cJ cZ ad zr) sz [.ref qm, .int pp, .int wh]) (va_Qi (fun r (u : RS2) => invR u ∧ pR_about zr pp wh r u) (fun u t => bw (dC, dI) [(cI, .int), (cJ, .long), (cZ, .boolean)] (va_A (rW qm cI cJ cZ ad zr) sz) (rW qm cI cJ cZ ad u) t) (va_A (rW qm cI cJ cZ ad zr) sz)) 0 0 (va_A (rW qm cI cJ cZ ad zr) sz) := by
  refine pw_met (cc := cX11_about) (maxL := 3) (ret := (some .int)) (by decide) rfl (Nat.le_of_ble_eq_true rfl) ?_
  intro p e s m below meth c0 hx hb hr hml hown hlocks hnm hts hP0 hK hD0 hN hsz hA hS ls hl
  subst hsz
  have hP : va_P (dC, dI) vwCl [rcO qm ad zr, rcI cI ad zr 2 48, rcI cI ad zr 3 48, rcI cI ad zr 4 48, rcI cI ad zr 5 48, rcI cI ad zr 7 4, rcI cI ad zr 8 4, rcI cI ad zr 9 192, rcI cI ad zr 10 48, rcI cI ad zr 12 12, rcI cI ad zr 13 12, rcI cI ad zr 14 12, rcI cI ad zr 15 12, rcI cI ad zr 16 12, rcI cI ad zr 18 8, rcJ cJ ad zr 19 8, rcI cI ad zr 25 40, rcI cI ad zr 26 40, rcI cI ad zr 27 40, rcI cZ ad zr 28 40, rcJ cJ ad zr 29 40, rcJ cJ ad zr 30 40, rcJ cJ ad zr 31 40, rcJ cJ ad zr 32 40, rcJ cJ ad zr 33 40, rcI cI ad zr 35 80, rcI cI ad zr 36 80, rcI cI ad zr 37 80] s.heap := hP0
  have hD : va_D (va_A (rW qm cI cJ cZ ad zr) s.heap.size) [rcO qm ad zr, rcI cI ad zr 2 48, rcI cI ad zr 3 48, rcI cI ad zr 4 48, rcI cI ad zr 5 48, rcI cI ad zr 7 4, rcI cI ad zr 8 4, rcI cI ad zr 9 192, rcI cI ad zr 10 48, rcI cI ad zr 12 12, rcI cI ad zr 13 12, rcI cI ad zr 14 12, rcI cI ad zr 15 12, rcI cI ad zr 16 12, rcI cI ad zr 18 8, rcJ cJ ad zr 19 8, rcI cI ad zr 25 40, rcI cI ad zr 26 40, rcI cI ad zr 27 40, rcI cZ ad zr 28 40, rcJ cJ ad zr 29 40, rcJ cJ ad zr 30 40, rcJ cJ ad zr 31 40, rcJ cJ ad zr 32 40, rcJ cJ ad zr 33 40, rcI cI ad zr 35 80, rcI cI ad zr 36 80, rcI cI ad zr 37 80] := hD0
  obtain ⟨⟨hn0, hn1, hn2, hn3⟩, hfar, hlh, hss, hsold, htk, hpk⟩ := id hI
  have hl : lv_has ls 3 [(0, .ref qm), (1, .int pp), (2, .int wh)] := hl
  have hiX11 : ∀ w ∈ wsX110, w ∈ wsX11_about := by decide +kernel
  generalize hQ : MQ _ _ _ _ _ _ _ = Q
  refine lv_aload_n hx hb dX11_about_0 rfl (lv_at hl 0 rfl) ?_
  refine lv_iload_n hx hb dX11_about_1 rfl (lv_at hl 1 rfl) ?_
  have hPc := hP.sub (ws' := [rcO qm ad zr]) [0] rfl
  have hDc := hD.sub (ws' := [rcO qm ad zr]) [0] (by decide) rfl
  have hKc := hK.sub (tys' := []) [] rfl
  refine vp_callSi (va_Run.run (va_runV (As := [.int pp]) (rest := []) ⟨hx, hb, hml, hown, hts⟩ (r_X11_noPitch l dC dI  _ qm (.int (rs_i zr 0)) (.int (rs_i zr 1)) (.ref (ad 2)) (.ref (ad 3)) (.ref (ad 4)) (.ref (ad 5)) (.int (rs_i zr 6)) (.ref (ad 7)) (.ref (ad 8)) (.ref (ad 9)) (.ref (ad 10)) (.ref (ad 12)) (.ref (ad 13)) (.ref (ad 14)) (.ref (ad 15)) (.ref (ad 16)) (.int (nI (rs_n zr 1))) (.ref (ad 18)) (.ref (ad 19)) (.int (rs_i zr 20)) (.int (rs_i zr 21)) (.int (rs_i zr 22)) (.int (rs_i zr 23)) (.int (nI (rs_n zr 2))) (.ref (ad 25)) (.ref (ad 26)) (.ref (ad 27)) (.ref (ad 28)) (.ref (ad 29)) (.ref (ad 30)) (.ref (ad 31)) (.ref (ad 32)) (.ref (ad 33)) (.int (nI (rs_n zr 3))) (.ref (ad 35)) (.ref (ad 36)) (.ref (ad 37)) (.int (rs_i zr 38)) (nI (rs_n zr 0)) pp (rs_n zr 0) rfl (by omega)) (cwV 1 hts gX11_about_X11_noPitch rfl rfl rfl (by decide +kernel) ⟨Nat.le_of_ble_eq_true rfl, Nat.le_of_ble_eq_true rfl⟩) (pw_preV (va_recv hKc hPc (ci := 11) (q0 := 0) rfl rfl) hPc hKc hDc hN) rfl rfl hl.1 rfl (lv_room (Nat.le_of_ble_eq_true rfl)) dX11_about_2 ⟨Nat.le_of_ble_eq_true rfl, Nat.le_of_ble_eq_true rfl⟩)) (fun r1 hr1 => ?_)
  have hr1 : (r1 = 1 ∧ ∀ j, j < (rs_n zr 0) → pp ≠ nI j) ∨ (r1 = 0 ∧ ∃ j, j < (rs_n zr 0) ∧ pp = nI j) := hr1
  rcases hr1 with ⟨er1, hnojp⟩ | ⟨er1, jp, hjp, egjp⟩
  · subst er1
    refine lv_if_eq (tgt := 10) hx hb dX11_about_5 (by decide) (fun c2 => ?_) (fun c2 => ?_)
    · exact absurd c2 (by decide)
    · skip
      refine lv_iconst (v := (-1)) hx hb dX11_about_8 (by decide) ?_
      subst hQ
      exact W.iret (v := (-1)) hx hb hr (fun t ht hW => ⟨⟨(-1), zr, rfl, ⟨hI, (Or.inl ⟨hnojp, rfl, rfl⟩)⟩, (by rw [ht]; exact hP0), va_K.moved hW.alike hK, hD0⟩, (by rw [ht]; exact Nat.le_refl _), fun q _ _ => by rw [ht]⟩) (fun q h => absurd h List.not_mem_nil) dX11_about_9
  · subst er1
    subst egjp
    refine lv_if_eq (tgt := 10) hx hb dX11_about_5 (by decide) (fun c3 => ?_) (fun c3 => ?_)
    · skip
      refine lv_iload_n hx hb dX11_about_10 rfl (lv_at hl 2 rfl) ?_
      by_cases hw4 : wh = 0
      · subst hw4
        refine lv_tableIn (off := 41) (tgt := 52) hx hb dX11_about_11 (by decide) (by decide) rfl (by decide) ?_
        refine lv_aload_n hx hb dX11_about_52 rfl (lv_at hl 0 rfl) ?_
        refine va_get (D := (dC, dI)) (ci := 11) (v := .ref (ad 12)) (C := RX11) (T := TX11) (N := 39) hx hb hts hiX11 hown hK hP 0 rfl rfl 12 (by decide) (hts (.fieldLink RX11 34 "TributePitchesModel" "fromX" "[I") (by decide +kernel)) (fun _ h9 => h9) rfl dX11_about_53 ?_
        refine lv_iload_n hx hb dX11_about_56 rfl (lv_at hl 1 rfl) ?_
        refine va_iald hx hb hK hP 9 0 rfl rfl (vp_in_nI (by omega) (by omega)) dX11_about_57 ?_
        refine lv_topi (fun v5 ev5 => ?_)
        have ev5 : v5 = (rs_I zr 12) jp := by rw [ev5]; rw [nI_clamp (by omega)]
        subst ev5
        subst hQ
        exact W.iret (v := (rs_I zr 12) jp) hx hb hr (fun t ht hW => ⟨⟨(rs_I zr 12) jp, zr, rfl, ⟨hI, (Or.inr (Or.inl ⟨jp, rfl, hjp, rfl, rfl, rfl⟩))⟩, (by rw [ht]; exact hP0), va_K.moved hW.alike hK, hD0⟩, (by rw [ht]; exact Nat.le_refl _), fun q _ _ => by rw [ht]⟩) (fun q h => absurd h List.not_mem_nil) dX11_about_58
      by_cases hw6 : wh = 1
      · subst hw6
        refine lv_tableIn (off := 48) (tgt := 59) hx hb dX11_about_11 (by decide) (by decide) rfl (by decide) ?_
        refine lv_aload_n hx hb dX11_about_59 rfl (lv_at hl 0 rfl) ?_
        refine va_get (D := (dC, dI)) (ci := 11) (v := .ref (ad 13)) (C := RX11) (T := TX11) (N := 39) hx hb hts hiX11 hown hK hP 0 rfl rfl 13 (by decide) (hts (.fieldLink RX11 37 "TributePitchesModel" "fromY" "[I") (by decide +kernel)) (fun _ h9 => h9) rfl dX11_about_60 ?_
        refine lv_iload_n hx hb dX11_about_63 rfl (lv_at hl 1 rfl) ?_
        refine va_iald hx hb hK hP 10 0 rfl rfl (vp_in_nI (by omega) (by omega)) dX11_about_64 ?_
        refine lv_topi (fun v7 ev7 => ?_)
        have ev7 : v7 = (rs_I zr 13) jp := by rw [ev7]; rw [nI_clamp (by omega)]
        subst ev7
        subst hQ
        exact W.iret (v := (rs_I zr 13) jp) hx hb hr (fun t ht hW => ⟨⟨(rs_I zr 13) jp, zr, rfl, ⟨hI, (Or.inr (Or.inr (Or.inl ⟨jp, rfl, hjp, rfl, rfl, rfl⟩)))⟩, (by rw [ht]; exact hP0), va_K.moved hW.alike hK, hD0⟩, (by rw [ht]; exact Nat.le_refl _), fun q _ _ => by rw [ht]⟩) (fun q h => absurd h List.not_mem_nil) dX11_about_65
      by_cases hw8 : wh = 2
      · subst hw8
        refine lv_tableIn (off := 55) (tgt := 66) hx hb dX11_about_11 (by decide) (by decide) rfl (by decide) ?_
        refine lv_aload_n hx hb dX11_about_66 rfl (lv_at hl 0 rfl) ?_
        refine va_get (D := (dC, dI)) (ci := 11) (v := .ref (ad 14)) (C := RX11) (T := TX11) (N := 39) hx hb hts hiX11 hown hK hP 0 rfl rfl 14 (by decide) (hts (.fieldLink RX11 40 "TributePitchesModel" "toX" "[I") (by decide +kernel)) (fun _ h9 => h9) rfl dX11_about_67 ?_
        refine lv_iload_n hx hb dX11_about_70 rfl (lv_at hl 1 rfl) ?_
        refine va_iald hx hb hK hP 11 0 rfl rfl (vp_in_nI (by omega) (by omega)) dX11_about_71 ?_
        refine lv_topi (fun v9 ev9 => ?_)
        have ev9 : v9 = (rs_I zr 14) jp := by rw [ev9]; rw [nI_clamp (by omega)]
        subst ev9
        subst hQ
        exact W.iret (v := (rs_I zr 14) jp) hx hb hr (fun t ht hW => ⟨⟨(rs_I zr 14) jp, zr, rfl, ⟨hI, (Or.inr (Or.inr (Or.inr (Or.inl ⟨jp, rfl, hjp, rfl, rfl, rfl⟩))))⟩, (by rw [ht]; exact hP0), va_K.moved hW.alike hK, hD0⟩, (by rw [ht]; exact Nat.le_refl _), fun q _ _ => by rw [ht]⟩) (fun q h => absurd h List.not_mem_nil) dX11_about_72
      by_cases hw10 : wh = 3
      · subst hw10
        refine lv_tableIn (off := 62) (tgt := 73) hx hb dX11_about_11 (by decide) (by decide) rfl (by decide) ?_
        refine lv_aload_n hx hb dX11_about_73 rfl (lv_at hl 0 rfl) ?_
        refine va_get (D := (dC, dI)) (ci := 11) (v := .ref (ad 15)) (C := RX11) (T := TX11) (N := 39) hx hb hts hiX11 hown hK hP 0 rfl rfl 15 (by decide) (hts (.fieldLink RX11 43 "TributePitchesModel" "toY" "[I") (by decide +kernel)) (fun _ h9 => h9) rfl dX11_about_74 ?_
        refine lv_iload_n hx hb dX11_about_77 rfl (lv_at hl 1 rfl) ?_
        refine va_iald hx hb hK hP 12 0 rfl rfl (vp_in_nI (by omega) (by omega)) dX11_about_78 ?_
        refine lv_topi (fun v11 ev11 => ?_)
        have ev11 : v11 = (rs_I zr 15) jp := by rw [ev11]; rw [nI_clamp (by omega)]
        subst ev11
        subst hQ
        exact W.iret (v := (rs_I zr 15) jp) hx hb hr (fun t ht hW => ⟨⟨(rs_I zr 15) jp, zr, rfl, ⟨hI, (Or.inr (Or.inr (Or.inr (Or.inr (Or.inl ⟨jp, rfl, hjp, rfl, rfl, rfl⟩)))))⟩, (by rw [ht]; exact hP0), va_K.moved hW.alike hK, hD0⟩, (by rw [ht]; exact Nat.le_refl _), fun q _ _ => by rw [ht]⟩) (fun q h => absurd h List.not_mem_nil) dX11_about_79
      by_cases hw12 : wh = 4
      · subst hw12
        refine lv_tableIn (off := 69) (tgt := 80) hx hb dX11_about_11 (by decide) (by decide) rfl (by decide) ?_
        refine lv_aload_n hx hb dX11_about_80 rfl (lv_at hl 0 rfl) ?_
        refine va_get (D := (dC, dI)) (ci := 11) (v := .ref (ad 16)) (C := RX11) (T := TX11) (N := 39) hx hb hts hiX11 hown hK hP 0 rfl rfl 16 (by decide) (hts (.fieldLink RX11 46 "TributePitchesModel" "tonsOf" "[I") (by decide +kernel)) (fun _ h9 => h9) rfl dX11_about_81 ?_
        refine lv_iload_n hx hb dX11_about_84 rfl (lv_at hl 1 rfl) ?_
        refine va_iald hx hb hK hP 13 0 rfl rfl (vp_in_nI (by omega) (by omega)) dX11_about_85 ?_
        refine lv_topi (fun v13 ev13 => ?_)
        have ev13 : v13 = (rs_I zr 16) jp := by rw [ev13]; rw [nI_clamp (by omega)]
        subst ev13
        subst hQ
        exact W.iret (v := (rs_I zr 16) jp) hx hb hr (fun t ht hW => ⟨⟨(rs_I zr 16) jp, zr, rfl, ⟨hI, (Or.inr (Or.inr (Or.inr (Or.inr (Or.inr (Or.inl ⟨jp, rfl, hjp, rfl, rfl, rfl⟩))))))⟩, (by rw [ht]; exact hP0), va_K.moved hW.alike hK, hD0⟩, (by rw [ht]; exact Nat.le_refl _), fun q _ _ => by rw [ht]⟩) (fun q h => absurd h List.not_mem_nil) dX11_about_86
      by_cases hw14 : wh = 5
      · subst hw14
        refine lv_tableIn (off := 76) (tgt := 87) hx hb dX11_about_11 (by decide) (by decide) rfl (by decide) ?_
        refine lv_aload_n hx hb dX11_about_87 rfl (lv_at hl 0 rfl) ?_
        refine lv_iload_n hx hb dX11_about_88 rfl (lv_at hl 1 rfl) ?_
        have hPc := hP.sub (ws' := [rcO qm ad zr, rcI cI ad zr 26 40, rcI cZ ad zr 28 40]) [0, 17, 19] rfl
        have hDc := hD.sub (ws' := [rcO qm ad zr, rcI cI ad zr 26 40, rcI cZ ad zr 28 40]) [0, 17, 19] (by decide) rfl
        have hKc := hK.sub (tys' := [(cI, .int), (cZ, .boolean)]) [0, 2] rfl
        refine vp_callSi (va_Run.run (va_runV (As := [.int (nI jp)]) (rest := []) ⟨hx, hb, hml, hown, hts⟩ (r_X11_takeOf l dC dI cI cZ _ qm (.int (rs_i zr 0)) (.int (rs_i zr 1)) (.ref (ad 2)) (.ref (ad 3)) (.ref (ad 4)) (.ref (ad 5)) (.int (rs_i zr 6)) (.ref (ad 7)) (.ref (ad 8)) (.ref (ad 9)) (.ref (ad 10)) (.int (nI (rs_n zr 0))) (.ref (ad 12)) (.ref (ad 13)) (.ref (ad 14)) (.ref (ad 15)) (.ref (ad 16)) (.int (nI (rs_n zr 1))) (.ref (ad 18)) (.ref (ad 19)) (.int (rs_i zr 20)) (.int (rs_i zr 21)) (.int (rs_i zr 22)) (.int (rs_i zr 23)) (.ref (ad 25)) (.ref (ad 27)) (.ref (ad 29)) (.ref (ad 30)) (.ref (ad 31)) (.ref (ad 32)) (.ref (ad 33)) (.int (nI (rs_n zr 3))) (.ref (ad 35)) (.ref (ad 36)) (.ref (ad 37)) (.int (rs_i zr 38)) (ad 26) (ad 28) (rs_I zr 28) (nI (rs_n zr 2)) (nI jp) (rs_n zr 2) (rs_I zr 26) rfl (by omega)) (cwV 1 hts gX11_about_X11_takeOf rfl rfl rfl (by decide +kernel) ⟨Nat.le_of_ble_eq_true rfl, Nat.le_of_ble_eq_true rfl⟩) (pw_preV (va_recv hKc hPc (ci := 11) (q0 := 0) rfl rfl) hPc hKc hDc hN) rfl rfl hl.1 rfl (lv_room (Nat.le_of_ble_eq_true rfl)) dX11_about_89 ⟨Nat.le_of_ble_eq_true rfl, Nat.le_of_ble_eq_true rfl⟩)) (fun r15 hr15 => ?_)
        have hr15 : (r15 = -9 ∧ ∀ u, u < (rs_n zr 2) → ¬ ((rs_I zr 26) u = (nI jp) ∧ (rs_I zr 28) u = 0)) ∨ (∃ u, u < (rs_n zr 2) ∧ r15 = nI u ∧ ((rs_I zr 26) u = (nI jp) ∧ (rs_I zr 28) u = 0) ∧ ∀ v, v < u → ¬ ((rs_I zr 26) v = (nI jp) ∧ (rs_I zr 28) v = 0)) := hr15
        subst hQ
        exact W.iret (v := r15) hx hb hr (fun t ht hW => ⟨⟨r15, zr, rfl, ⟨hI, (Or.inr (Or.inr (Or.inr (Or.inr (Or.inr (Or.inr (Or.inl ⟨jp, rfl, hjp, rfl, r15, hr15, rfl, rfl⟩)))))))⟩, (by rw [ht]; exact hP0), va_K.moved hW.alike hK, hD0⟩, (by rw [ht]; exact Nat.le_refl _), fun q _ _ => by rw [ht]⟩) (fun q h => absurd h List.not_mem_nil) dX11_about_92
      by_cases hw16 : wh = 6
      · subst hw16
        refine lv_tableIn (off := 82) (tgt := 93) hx hb dX11_about_11 (by decide) (by decide) rfl (by decide) ?_
        refine lv_aload_n hx hb dX11_about_93 rfl (lv_at hl 0 rfl) ?_
        refine lv_iload_n hx hb dX11_about_94 rfl (lv_at hl 1 rfl) ?_
        have hPc := hP.sub (ws' := [rcO qm ad zr, rcI cI ad zr 26 40]) [0, 17] rfl
        have hDc := hD.sub (ws' := [rcO qm ad zr, rcI cI ad zr 26 40]) [0, 17] (by decide) rfl
        have hKc := hK.sub (tys' := [(cI, .int)]) [0] rfl
        refine vp_callSi (va_Run.run (va_runV (As := [.int (nI jp)]) (rest := []) ⟨hx, hb, hml, hown, hts⟩ (r_X11_takesOn l dC dI cI _ qm (.int (rs_i zr 0)) (.int (rs_i zr 1)) (.ref (ad 2)) (.ref (ad 3)) (.ref (ad 4)) (.ref (ad 5)) (.int (rs_i zr 6)) (.ref (ad 7)) (.ref (ad 8)) (.ref (ad 9)) (.ref (ad 10)) (.int (nI (rs_n zr 0))) (.ref (ad 12)) (.ref (ad 13)) (.ref (ad 14)) (.ref (ad 15)) (.ref (ad 16)) (.int (nI (rs_n zr 1))) (.ref (ad 18)) (.ref (ad 19)) (.int (rs_i zr 20)) (.int (rs_i zr 21)) (.int (rs_i zr 22)) (.int (rs_i zr 23)) (.ref (ad 25)) (.ref (ad 27)) (.ref (ad 28)) (.ref (ad 29)) (.ref (ad 30)) (.ref (ad 31)) (.ref (ad 32)) (.ref (ad 33)) (.int (nI (rs_n zr 3))) (.ref (ad 35)) (.ref (ad 36)) (.ref (ad 37)) (.int (rs_i zr 38)) (ad 26) (nI (rs_n zr 2)) (nI jp) (rs_n zr 2) (rs_I zr 26) rfl (by omega)) (cwV 1 hts gX11_about_X11_takesOn rfl rfl rfl (by decide +kernel) ⟨Nat.le_of_ble_eq_true rfl, Nat.le_of_ble_eq_true rfl⟩) (pw_preV (va_recv hKc hPc (ci := 11) (q0 := 0) rfl rfl) hPc hKc hDc hN) rfl rfl hl.1 rfl (lv_room (Nat.le_of_ble_eq_true rfl)) dX11_about_95 ⟨Nat.le_of_ble_eq_true rfl, Nat.le_of_ble_eq_true rfl⟩)) (fun r17 hr17 => ?_)
        have hr17 : r17 = nI (fa_cnt (fun t => decide ((rs_I zr 26) t = (nI jp))) (rs_n zr 2)) := hr17
        have hr17 := hr17.symm
        subst hr17
        refine W.eq (g2 := F0 m 98 ls [.int (nI (fa_cnt (fun t => decide ((rs_I zr 26) t = (nI jp))) (rs_n zr 2)))]) rfl ?_
        subst hQ
        exact W.iret (v := nI (fa_cnt (fun t => decide ((rs_I zr 26) t = (nI jp))) (rs_n zr 2))) hx hb hr (fun t ht hW => ⟨⟨nI (fa_cnt (fun t => decide ((rs_I zr 26) t = (nI jp))) (rs_n zr 2)), zr, rfl, ⟨hI, (Or.inr (Or.inr (Or.inr (Or.inr (Or.inr (Or.inr (Or.inr (Or.inl ⟨jp, rfl, hjp, rfl, rfl, rfl⟩))))))))⟩, (by rw [ht]; exact hP0), va_K.moved hW.alike hK, hD0⟩, (by rw [ht]; exact Nat.le_refl _), fun q _ _ => by rw [ht]⟩) (fun q h => absurd h List.not_mem_nil) dX11_about_98
      refine lv_tableOut (tgt := 99) hx hb dX11_about_11 (tb_out7 hw4 hw6 hw8 hw10 hw12 hw14 hw16) (by decide) ?_
      refine lv_bipush (v := (-2)) hx hb dX11_about_99 (by decide) ?_
      subst hQ
      exact W.iret (v := (-2)) hx hb hr (fun t ht hW => ⟨⟨(-2), zr, rfl, ⟨hI, (Or.inr (Or.inr (Or.inr (Or.inr (Or.inr (Or.inr (Or.inr (Or.inr ⟨jp, rfl, hjp, hw4, hw6, hw8, hw10, hw12, hw14, hw16, rfl, rfl⟩))))))))⟩, (by rw [ht]; exact hP0), va_K.moved hW.alike hK, hD0⟩, (by rw [ht]; exact Nat.le_refl _), fun q _ _ => by rw [ht]⟩) (fun q h => absurd h List.not_mem_nil) dX11_about_101
    · exact absurd c3 (by decide)
