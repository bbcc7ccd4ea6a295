def pR_taken (zr : RS2) (t : Int32) (wh : Int32) (r : Int32) (u : RS2) : Prop :=
  ((∀ j, j < rs_n zr 2 → t ≠ nI j) ∧ r = ((-1)) ∧ u = zr) ∨
  (∃ jt : Nat, t = nI jt ∧ (jt < rs_n zr 2) ∧ wh = 0 ∧ r = ((rs_I zr 25) jt) ∧ u = zr) ∨
  (∃ jt : Nat, t = nI jt ∧ (jt < rs_n zr 2) ∧ wh = 1 ∧ r = ((rs_I zr 26) jt) ∧ u = zr) ∨
  (∃ jt : Nat, t = nI jt ∧ (jt < rs_n zr 2) ∧ wh = 2 ∧ r = ((rs_I zr 27) jt) ∧ u = zr) ∨
  (∃ jt : Nat, t = nI jt ∧ (jt < rs_n zr 2) ∧ wh = 3 ∧ (((rs_I zr 28) jt) = 0) ∧ r = (0) ∧ u = zr) ∨
  (∃ jt : Nat, t = nI jt ∧ (jt < rs_n zr 2) ∧ wh = 3 ∧ (¬ ((rs_I zr 28) jt) = 0) ∧ r = (1) ∧ u = zr) ∨
  (∃ jt : Nat, t = nI jt ∧ (jt < rs_n zr 2) ∧ wh = 4 ∧ r = (nI (fa_cnt (fun t => decide ((rs_I zr 35) t = (nI jt))) (rs_n zr 3))) ∧ u = zr) ∨
  (∃ jt : Nat, t = nI jt ∧ (jt < rs_n zr 2) ∧ (¬ wh = 0) ∧ (¬ wh = 1) ∧ (¬ wh = 2) ∧ (¬ wh = 3) ∧ (¬ wh = 4) ∧ r = ((-2)) ∧ u = zr)
set_option maxHeartbeats 4000000 in
set_option maxRecDepth 100000 in
theorem M_taken (l : Launch) (dC : Nat → ClassId) (dI : Nat → Nat → Nat) (cI cJ cZ : ClassId) (sz : Nat) (qm : Nat) (ad : Nat → Nat) (zr : RS2) (t : Int32) (wh : Int32) (hI : invR zr) : Met l yX11_taken wsX11_taken ({ frames := 3, cells := 0, slots := 0, locals := 90 }) (pw (dC, dI) [(cI, .int), (cJ, .long), (cZ, .boolean)] (rW qm cI cJ cZ ad zr) sz [.ref qm, .int t, .int wh]) (va_Qi (fun r (u : RS2) => invR u ∧ pR_taken zr t wh r u) (fun u t => bw (dC, dI) [(cI, .int), (cJ, .long), (cZ, .boolean)] (va_A (rW qm cI cJ cZ ad zr) sz) (rW qm cI cJ cZ ad u) t) (va_A (rW qm cI cJ cZ ad zr) sz)) 0 0 (va_A (rW qm cI cJ cZ ad zr) sz) := by
  refine pw_met (cc := cX11_taken) (maxL := 3) (ret := (some .int)) (by decide) rfl (Nat.le_of_ble_eq_true rfl) ?_
  intro p e s m below meth c0 hx hb hr hml hown hlocks hnm hts hP0 hK hD0 hN hsz hA hS ls hl
  subst hsz
  have hP : va_P (dC, dI) vwCl [rcO qm ad zr, rcI cI ad zr 2 48, rcI cI ad zr 3 48, rcI cI ad zr 4 48, rcI cI ad zr 5 48, rcI cI ad zr 7 4, rcI cI ad zr 8 4, rcI cI ad zr 9 192, rcI cI ad zr 10 48, rcI cI ad zr 12 12, rcI cI ad zr 13 12, rcI cI ad zr 14 12, rcI cI ad zr 15 12, rcI cI ad zr 16 12, rcI cI ad zr 18 8, rcJ cJ ad zr 19 8, rcI cI ad zr 25 40, rcI cI ad zr 26 40, rcI cI ad zr 27 40, rcI cZ ad zr 28 40, rcJ cJ ad zr 29 40, rcJ cJ ad zr 30 40, rcJ cJ ad zr 31 40, rcJ cJ ad zr 32 40, rcJ cJ ad zr 33 40, rcI cI ad zr 35 80, rcI cI ad zr 36 80, rcI cI ad zr 37 80] s.heap := hP0
  have hD : va_D (va_A (rW qm cI cJ cZ ad zr) s.heap.size) [rcO qm ad zr, rcI cI ad zr 2 48, rcI cI ad zr 3 48, rcI cI ad zr 4 48, rcI cI ad zr 5 48, rcI cI ad zr 7 4, rcI cI ad zr 8 4, rcI cI ad zr 9 192, rcI cI ad zr 10 48, rcI cI ad zr 12 12, rcI cI ad zr 13 12, rcI cI ad zr 14 12, rcI cI ad zr 15 12, rcI cI ad zr 16 12, rcI cI ad zr 18 8, rcJ cJ ad zr 19 8, rcI cI ad zr 25 40, rcI cI ad zr 26 40, rcI cI ad zr 27 40, rcI cZ ad zr 28 40, rcJ cJ ad zr 29 40, rcJ cJ ad zr 30 40, rcJ cJ ad zr 31 40, rcJ cJ ad zr 32 40, rcJ cJ ad zr 33 40, rcI cI ad zr 35 80, rcI cI ad zr 36 80, rcI cI ad zr 37 80] := hD0
  obtain ⟨⟨hn0, hn1, hn2, hn3⟩, hfar, hlh, hss, hsold, htk, hpk⟩ := id hI
  have hl : lv_has ls 3 [(0, .ref qm), (1, .int t), (2, .int wh)] := hl
  have hiX11 : ∀ w ∈ wsX110, w ∈ wsX11_taken := by decide +kernel
  generalize hQ : MQ _ _ _ _ _ _ _ = Q
  refine lv_aload_n hx hb dX11_taken_0 rfl (lv_at hl 0 rfl) ?_
  refine lv_iload_n hx hb dX11_taken_1 rfl (lv_at hl 1 rfl) ?_
  have hPc := hP.sub (ws' := [rcO qm ad zr]) [0] rfl
  have hDc := hD.sub (ws' := [rcO qm ad zr]) [0] (by decide) rfl
  have hKc := hK.sub (tys' := []) [] rfl
  refine vp_callSi (va_Run.run (va_runV (As := [.int t]) (rest := []) ⟨hx, hb, hml, hown, hts⟩ (r_X11_noTake l dC dI  _ qm (.int (rs_i zr 0)) (.int (rs_i zr 1)) (.ref (ad 2)) (.ref (ad 3)) (.ref (ad 4)) (.ref (ad 5)) (.int (rs_i zr 6)) (.ref (ad 7)) (.ref (ad 8)) (.ref (ad 9)) (.ref (ad 10)) (.int (nI (rs_n zr 0))) (.ref (ad 12)) (.ref (ad 13)) (.ref (ad 14)) (.ref (ad 15)) (.ref (ad 16)) (.int (nI (rs_n zr 1))) (.ref (ad 18)) (.ref (ad 19)) (.int (rs_i zr 20)) (.int (rs_i zr 21)) (.int (rs_i zr 22)) (.int (rs_i zr 23)) (.ref (ad 25)) (.ref (ad 26)) (.ref (ad 27)) (.ref (ad 28)) (.ref (ad 29)) (.ref (ad 30)) (.ref (ad 31)) (.ref (ad 32)) (.ref (ad 33)) (.int (nI (rs_n zr 3))) (.ref (ad 35)) (.ref (ad 36)) (.ref (ad 37)) (.int (rs_i zr 38)) (nI (rs_n zr 2)) t (rs_n zr 2) rfl (by omega)) (cwV 1 hts gX11_taken_X11_noTake rfl rfl rfl (by decide +kernel) ⟨Nat.le_of_ble_eq_true rfl, Nat.le_of_ble_eq_true rfl⟩) (pw_preV (va_recv hKc hPc (ci := 11) (q0 := 0) rfl rfl) hPc hKc hDc hN) rfl rfl hl.1 rfl (lv_room (Nat.le_of_ble_eq_true rfl)) dX11_taken_2 ⟨Nat.le_of_ble_eq_true rfl, Nat.le_of_ble_eq_true rfl⟩)) (fun r1 hr1 => ?_)
  have hr1 : (r1 = 1 ∧ ∀ j, j < (rs_n zr 2) → t ≠ nI j) ∨ (r1 = 0 ∧ ∃ j, j < (rs_n zr 2) ∧ t = nI j) := hr1
  rcases hr1 with ⟨er1, hnojt⟩ | ⟨er1, jt, hjt, egjt⟩
  · subst er1
    refine lv_if_eq (tgt := 10) hx hb dX11_taken_5 (by decide) (fun c2 => ?_) (fun c2 => ?_)
    · exact absurd c2 (by decide)
    · skip
      refine lv_iconst (v := (-1)) hx hb dX11_taken_8 (by decide) ?_
      subst hQ
      exact W.iret (v := (-1)) hx hb hr (fun t ht hW => ⟨⟨(-1), zr, rfl, ⟨hI, (Or.inl ⟨hnojt, rfl, rfl⟩)⟩, (by rw [ht]; exact hP0), va_K.moved hW.alike hK, hD0⟩, (by rw [ht]; exact Nat.le_refl _), fun q _ _ => by rw [ht]⟩) (fun q h => absurd h List.not_mem_nil) dX11_taken_9
  · subst er1
    subst egjt
    refine lv_if_eq (tgt := 10) hx hb dX11_taken_5 (by decide) (fun c3 => ?_) (fun c3 => ?_)
    · skip
      refine lv_iload_n hx hb dX11_taken_10 rfl (lv_at hl 2 rfl) ?_
      by_cases hw4 : wh = 0
      · subst hw4
        refine lv_tableIn (off := 33) (tgt := 44) hx hb dX11_taken_11 (by decide) (by decide) rfl (by decide) ?_
        refine lv_aload_n hx hb dX11_taken_44 rfl (lv_at hl 0 rfl) ?_
        refine va_get (D := (dC, dI)) (ci := 11) (v := .ref (ad 25)) (C := RX11) (T := TX11) (N := 39) hx hb hts hiX11 hown hK hP 0 rfl rfl 25 (by decide) (hts (.fieldLink RX11 56 "TributePitchesModel" "gangOf" "[I") (by decide +kernel)) (fun _ h9 => h9) rfl dX11_taken_45 ?_
        refine lv_iload_n hx hb dX11_taken_48 rfl (lv_at hl 1 rfl) ?_
        refine va_iald hx hb hK hP 16 0 rfl rfl (vp_in_nI (by omega) (by omega)) dX11_taken_49 ?_
        refine lv_topi (fun v5 ev5 => ?_)
        have ev5 : v5 = (rs_I zr 25) jt := by rw [ev5]; rw [nI_clamp (by omega)]
        subst ev5
        subst hQ
        exact W.iret (v := (rs_I zr 25) jt) hx hb hr (fun t ht hW => ⟨⟨(rs_I zr 25) jt, zr, rfl, ⟨hI, (Or.inr (Or.inl ⟨jt, rfl, hjt, rfl, rfl, rfl⟩))⟩, (by rw [ht]; exact hP0), va_K.moved hW.alike hK, hD0⟩, (by rw [ht]; exact Nat.le_refl _), fun q _ _ => by rw [ht]⟩) (fun q h => absurd h List.not_mem_nil) dX11_taken_50
      by_cases hw6 : wh = 1
      · subst hw6
        refine lv_tableIn (off := 40) (tgt := 51) hx hb dX11_taken_11 (by decide) (by decide) rfl (by decide) ?_
        refine lv_aload_n hx hb dX11_taken_51 rfl (lv_at hl 0 rfl) ?_
        refine va_get (D := (dC, dI)) (ci := 11) (v := .ref (ad 26)) (C := RX11) (T := TX11) (N := 39) hx hb hts hiX11 hown hK hP 0 rfl rfl 26 (by decide) (hts (.fieldLink RX11 59 "TributePitchesModel" "pitchOf" "[I") (by decide +kernel)) (fun _ h9 => h9) rfl dX11_taken_52 ?_
        refine lv_iload_n hx hb dX11_taken_55 rfl (lv_at hl 1 rfl) ?_
        refine va_iald hx hb hK hP 17 0 rfl rfl (vp_in_nI (by omega) (by omega)) dX11_taken_56 ?_
        refine lv_topi (fun v7 ev7 => ?_)
        have ev7 : v7 = (rs_I zr 26) jt := by rw [ev7]; rw [nI_clamp (by omega)]
        subst ev7
        subst hQ
        exact W.iret (v := (rs_I zr 26) jt) hx hb hr (fun t ht hW => ⟨⟨(rs_I zr 26) jt, zr, rfl, ⟨hI, (Or.inr (Or.inr (Or.inl ⟨jt, rfl, hjt, rfl, rfl, rfl⟩)))⟩, (by rw [ht]; exact hP0), va_K.moved hW.alike hK, hD0⟩, (by rw [ht]; exact Nat.le_refl _), fun q _ _ => by rw [ht]⟩) (fun q h => absurd h List.not_mem_nil) dX11_taken_57
      by_cases hw8 : wh = 2
      · subst hw8
        refine lv_tableIn (off := 47) (tgt := 58) hx hb dX11_taken_11 (by decide) (by decide) rfl (by decide) ?_
        refine lv_aload_n hx hb dX11_taken_58 rfl (lv_at hl 0 rfl) ?_
        refine va_get (D := (dC, dI)) (ci := 11) (v := .ref (ad 27)) (C := RX11) (T := TX11) (N := 39) hx hb hts hiX11 hown hK hP 0 rfl rfl 27 (by decide) (hts (.fieldLink RX11 62 "TributePitchesModel" "shareOf" "[I") (by decide +kernel)) (fun _ h9 => h9) rfl dX11_taken_59 ?_
        refine lv_iload_n hx hb dX11_taken_62 rfl (lv_at hl 1 rfl) ?_
        refine va_iald hx hb hK hP 18 0 rfl rfl (vp_in_nI (by omega) (by omega)) dX11_taken_63 ?_
        refine lv_topi (fun v9 ev9 => ?_)
        have ev9 : v9 = (rs_I zr 27) jt := by rw [ev9]; rw [nI_clamp (by omega)]
        subst ev9
        subst hQ
        exact W.iret (v := (rs_I zr 27) jt) hx hb hr (fun t ht hW => ⟨⟨(rs_I zr 27) jt, zr, rfl, ⟨hI, (Or.inr (Or.inr (Or.inr (Or.inl ⟨jt, rfl, hjt, rfl, rfl, rfl⟩))))⟩, (by rw [ht]; exact hP0), va_K.moved hW.alike hK, hD0⟩, (by rw [ht]; exact Nat.le_refl _), fun q _ _ => by rw [ht]⟩) (fun q h => absurd h List.not_mem_nil) dX11_taken_64
      by_cases hw10 : wh = 3
      · subst hw10
        refine lv_tableIn (off := 54) (tgt := 65) hx hb dX11_taken_11 (by decide) (by decide) rfl (by decide) ?_
        refine lv_aload_n hx hb dX11_taken_65 rfl (lv_at hl 0 rfl) ?_
        refine va_get (D := (dC, dI)) (ci := 11) (v := .ref (ad 28)) (C := RX11) (T := TX11) (N := 39) hx hb hts hiX11 hown hK hP 0 rfl rfl 28 (by decide) (hts (.fieldLink RX11 65 "TributePitchesModel" "isSettled" "[Z") (by decide +kernel)) (fun _ h9 => h9) rfl dX11_taken_66 ?_
        refine lv_iload_n hx hb dX11_taken_69 rfl (lv_at hl 1 rfl) ?_
        refine va_zald hx hb hK hP 19 2 rfl rfl (vp_in_nI (by omega) (by omega)) dX11_taken_70 ?_
        refine lv_topi (fun v11 ev11 => ?_)
        have ev11 : v11 = (rs_I zr 28) jt := by rw [ev11]; rw [nI_clamp (by omega)]
        subst ev11
        refine lv_if_eq (tgt := 78) hx hb dX11_taken_71 (by decide) (fun c12 => ?_) (fun c12 => ?_)
        · skip
          refine lv_iconst (v := 0) hx hb dX11_taken_78 (by decide) ?_
          subst hQ
          exact W.iret (v := 0) hx hb hr (fun t ht hW => ⟨⟨0, zr, rfl, ⟨hI, (Or.inr (Or.inr (Or.inr (Or.inr (Or.inl ⟨jt, rfl, hjt, rfl, c12, rfl, rfl⟩)))))⟩, (by rw [ht]; exact hP0), va_K.moved hW.alike hK, hD0⟩, (by rw [ht]; exact Nat.le_refl _), fun q _ _ => by rw [ht]⟩) (fun q h => absurd h List.not_mem_nil) dX11_taken_79
        · skip
          refine lv_iconst (v := 1) hx hb dX11_taken_74 (by decide) ?_
          refine lv_goto (tgt := 79) hx hb dX11_taken_75 (by decide) ?_
          subst hQ
          exact W.iret (v := 1) hx hb hr (fun t ht hW => ⟨⟨1, zr, rfl, ⟨hI, (Or.inr (Or.inr (Or.inr (Or.inr (Or.inr (Or.inl ⟨jt, rfl, hjt, rfl, c12, rfl, rfl⟩))))))⟩, (by rw [ht]; exact hP0), va_K.moved hW.alike hK, hD0⟩, (by rw [ht]; exact Nat.le_refl _), fun q _ _ => by rw [ht]⟩) (fun q h => absurd h List.not_mem_nil) dX11_taken_79
      by_cases hw13 : wh = 4
      · subst hw13
        refine lv_tableIn (off := 69) (tgt := 80) hx hb dX11_taken_11 (by decide) (by decide) rfl (by decide) ?_
        refine lv_aload_n hx hb dX11_taken_80 rfl (lv_at hl 0 rfl) ?_
        refine lv_iload_n hx hb dX11_taken_81 rfl (lv_at hl 1 rfl) ?_
        have hPc := hP.sub (ws' := [rcO qm ad zr, rcI cI ad zr 35 80]) [0, 25] rfl
        have hDc := hD.sub (ws' := [rcO qm ad zr, rcI cI ad zr 35 80]) [0, 25] (by decide) rfl
        have hKc := hK.sub (tys' := [(cI, .int)]) [0] rfl
        refine vp_callSi (va_Run.run (va_runV (As := [.int (nI jt)]) (rest := []) ⟨hx, hb, hml, hown, hts⟩ (r_X11_parcelsOf l dC dI cI _ qm (.int (rs_i zr 0)) (.int (rs_i zr 1)) (.ref (ad 2)) (.ref (ad 3)) (.ref (ad 4)) (.ref (ad 5)) (.int (rs_i zr 6)) (.ref (ad 7)) (.ref (ad 8)) (.ref (ad 9)) (.ref (ad 10)) (.int (nI (rs_n zr 0))) (.ref (ad 12)) (.ref (ad 13)) (.ref (ad 14)) (.ref (ad 15)) (.ref (ad 16)) (.int (nI (rs_n zr 1))) (.ref (ad 18)) (.ref (ad 19)) (.int (rs_i zr 20)) (.int (rs_i zr 21)) (.int (rs_i zr 22)) (.int (rs_i zr 23)) (.int (nI (rs_n zr 2))) (.ref (ad 25)) (.ref (ad 26)) (.ref (ad 27)) (.ref (ad 28)) (.ref (ad 29)) (.ref (ad 30)) (.ref (ad 31)) (.ref (ad 32)) (.ref (ad 33)) (.ref (ad 36)) (.ref (ad 37)) (.int (rs_i zr 38)) (ad 35) (nI (rs_n zr 3)) (nI jt) (rs_n zr 3) (rs_I zr 35) rfl (by omega)) (cwV 1 hts gX11_taken_X11_parcelsOf rfl rfl rfl (by decide +kernel) ⟨Nat.le_of_ble_eq_true rfl, Nat.le_of_ble_eq_true rfl⟩) (pw_preV (va_recv hKc hPc (ci := 11) (q0 := 0) rfl rfl) hPc hKc hDc hN) rfl rfl hl.1 rfl (lv_room (Nat.le_of_ble_eq_true rfl)) dX11_taken_82 ⟨Nat.le_of_ble_eq_true rfl, Nat.le_of_ble_eq_true rfl⟩)) (fun r14 hr14 => ?_)
        have hr14 : r14 = nI (fa_cnt (fun t => decide ((rs_I zr 35) t = (nI jt))) (rs_n zr 3)) := hr14
        have hr14 := hr14.symm
        subst hr14
        refine W.eq (g2 := F0 m 85 ls [.int (nI (fa_cnt (fun t => decide ((rs_I zr 35) t = (nI jt))) (rs_n zr 3)))]) rfl ?_
        subst hQ
        exact W.iret (v := nI (fa_cnt (fun t => decide ((rs_I zr 35) t = (nI jt))) (rs_n zr 3))) hx hb hr (fun t ht hW => ⟨⟨nI (fa_cnt (fun t => decide ((rs_I zr 35) t = (nI jt))) (rs_n zr 3)), zr, rfl, ⟨hI, (Or.inr (Or.inr (Or.inr (Or.inr (Or.inr (Or.inr (Or.inl ⟨jt, rfl, hjt, rfl, rfl, rfl⟩)))))))⟩, (by rw [ht]; exact hP0), va_K.moved hW.alike hK, hD0⟩, (by rw [ht]; exact Nat.le_refl _), fun q _ _ => by rw [ht]⟩) (fun q h => absurd h List.not_mem_nil) dX11_taken_85
      refine lv_tableOut (tgt := 86) hx hb dX11_taken_11 (tb_out5 hw4 hw6 hw8 hw10 hw13) (by decide) ?_
      refine lv_bipush (v := (-2)) hx hb dX11_taken_86 (by decide) ?_
      subst hQ
      exact W.iret (v := (-2)) hx hb hr (fun t ht hW => ⟨⟨(-2), zr, rfl, ⟨hI, (Or.inr (Or.inr (Or.inr (Or.inr (Or.inr (Or.inr (Or.inr ⟨jt, rfl, hjt, hw4, hw6, hw8, hw10, hw13, rfl, rfl⟩)))))))⟩, (by rw [ht]; exact hP0), va_K.moved hW.alike hK, hD0⟩, (by rw [ht]; exact Nat.le_refl _), fun q _ _ => by rw [ht]⟩) (fun q h => absurd h List.not_mem_nil) dX11_taken_88
    · exact absurd c3 (by decide)
