def pR_money (zr : RS2) (t : Int32) (wh : Int32) (r : Int64) (u : RS2) : Prop :=
  ((∀ j, j < rs_n zr 2 → t ≠ nI j) ∧ r = ((-9223372036854775808)) ∧ u = zr) ∨
  (∃ jt : Nat, t = nI jt ∧ (jt < rs_n zr 2) ∧ wh = 0 ∧ r = (wsum (rs_I zr 35) (rs_I zr 36) (rs_I zr 37) (nI jt) (rs_n zr 3)) ∧ u = zr) ∨
  (∃ jt : Nat, t = nI jt ∧ (jt < rs_n zr 2) ∧ wh = 1 ∧ r = ((rs_L zr 31) jt) ∧ u = zr) ∨
  (∃ jt : Nat, t = nI jt ∧ (jt < rs_n zr 2) ∧ wh = 2 ∧ r = ((rs_L zr 32) jt) ∧ u = zr) ∨
  (∃ jt : Nat, t = nI jt ∧ (jt < rs_n zr 2) ∧ wh = 3 ∧ r = ((rs_L zr 33) jt) ∧ u = zr) ∨
  (∃ jt : Nat, t = nI jt ∧ (jt < rs_n zr 2) ∧ wh = 4 ∧ r = ((rs_L zr 29) jt) ∧ u = zr) ∨
  (∃ jt : Nat, t = nI jt ∧ (jt < rs_n zr 2) ∧ wh = 5 ∧ r = ((rs_L zr 30) jt) ∧ u = zr) ∨
  (∃ jt : Nat, t = nI jt ∧ (jt < rs_n zr 2) ∧ (¬ wh = 0) ∧ (¬ wh = 1) ∧ (¬ wh = 2) ∧ (¬ wh = 3) ∧ (¬ wh = 4) ∧ (¬ wh = 5) ∧ r = ((-9223372036854775808)) ∧ u = zr)
set_option maxHeartbeats 4000000 in
set_option maxRecDepth 100000 in
theorem M_money (l : Launch) (dC : Nat → ClassId) (dI : Nat → Nat → Nat) (cI cJ cZ : ClassId) (sz : Nat) (qm : Nat) (ad : Nat → Nat) (zr : RS2) (t : Int32) (wh : Int32) (hI : invR zr) : Met l yX11_money wsX11_money ({ frames := 3, cells := 0, slots := 0, locals := 90 }) (pw (dC, dI) [(cI, .int), (cJ, .long), (cZ, .boolean)] (rW qm cI cJ cZ ad zr) sz [.ref qm, .int t, .int wh]) (va_Ql (fun r (u : RS2) => invR u ∧ pR_money zr t wh r u) (fun u t => bw (dC, dI) [(cI, .int), (cJ, .long), (cZ, .boolean)] (va_A (rW qm cI cJ cZ ad zr) sz) (rW qm cI cJ cZ ad u) t) (va_A (rW qm cI cJ cZ ad zr) sz)) 0 0 (va_A (rW qm cI cJ cZ ad zr) sz) := by
  refine pw_met (cc := cX11_money) (maxL := 3) (ret := (some .long)) (by decide) rfl (Nat.le_of_ble_eq_true rfl) ?_
  intro p e s m below meth c0 hx hb hr hml hown hlocks hnm hts hP0 hK hD0 hN hsz hA hS ls hl
  subst hsz
  have hP : va_P (dC, dI) vwCl [rcO qm ad zr, rcI cI ad zr 2 48, rcI cI ad zr 3 48, rcI cI ad zr 4 48, rcI cI ad zr 5 48, rcI cI ad zr 7 4, rcI cI ad zr 8 4, rcI cI ad zr 9 192, rcI cI ad zr 10 48, rcI cI ad zr 12 12, rcI cI ad zr 13 12, rcI cI ad zr 14 12, rcI cI ad zr 15 12, rcI cI ad zr 16 12, rcI cI ad zr 18 8, rcJ cJ ad zr 19 8, rcI cI ad zr 25 40, rcI cI ad zr 26 40, rcI cI ad zr 27 40, rcI cZ ad zr 28 40, rcJ cJ ad zr 29 40, rcJ cJ ad zr 30 40, rcJ cJ ad zr 31 40, rcJ cJ ad zr 32 40, rcJ cJ ad zr 33 40, rcI cI ad zr 35 80, rcI cI ad zr 36 80, rcI cI ad zr 37 80] s.heap := hP0
  have hD : va_D (va_A (rW qm cI cJ cZ ad zr) s.heap.size) [rcO qm ad zr, rcI cI ad zr 2 48, rcI cI ad zr 3 48, rcI cI ad zr 4 48, rcI cI ad zr 5 48, rcI cI ad zr 7 4, rcI cI ad zr 8 4, rcI cI ad zr 9 192, rcI cI ad zr 10 48, rcI cI ad zr 12 12, rcI cI ad zr 13 12, rcI cI ad zr 14 12, rcI cI ad zr 15 12, rcI cI ad zr 16 12, rcI cI ad zr 18 8, rcJ cJ ad zr 19 8, rcI cI ad zr 25 40, rcI cI ad zr 26 40, rcI cI ad zr 27 40, rcI cZ ad zr 28 40, rcJ cJ ad zr 29 40, rcJ cJ ad zr 30 40, rcJ cJ ad zr 31 40, rcJ cJ ad zr 32 40, rcJ cJ ad zr 33 40, rcI cI ad zr 35 80, rcI cI ad zr 36 80, rcI cI ad zr 37 80] := hD0
  obtain ⟨⟨hn0, hn1, hn2, hn3⟩, hfar, hlh, hss, hsold, htk, hpk⟩ := id hI
  have hl : lv_has ls 3 [(0, .ref qm), (1, .int t), (2, .int wh)] := hl
  have hiX11 : ∀ w ∈ wsX110, w ∈ wsX11_money := by decide +kernel
  generalize hQ : MQ _ _ _ _ _ _ _ = Q
  refine lv_aload_n hx hb dX11_money_0 rfl (lv_at hl 0 rfl) ?_
  refine lv_iload_n hx hb dX11_money_1 rfl (lv_at hl 1 rfl) ?_
  have hPc := hP.sub (ws' := [rcO qm ad zr]) [0] rfl
  have hDc := hD.sub (ws' := [rcO qm ad zr]) [0] (by decide) rfl
  have hKc := hK.sub (tys' := []) [] rfl
  refine vp_callSi (va_Run.run (va_runV (As := [.int t]) (rest := []) ⟨hx, hb, hml, hown, hts⟩ (r_X11_noTake l dC dI  _ qm (.int (rs_i zr 0)) (.int (rs_i zr 1)) (.ref (ad 2)) (.ref (ad 3)) (.ref (ad 4)) (.ref (ad 5)) (.int (rs_i zr 6)) (.ref (ad 7)) (.ref (ad 8)) (.ref (ad 9)) (.ref (ad 10)) (.int (nI (rs_n zr 0))) (.ref (ad 12)) (.ref (ad 13)) (.ref (ad 14)) (.ref (ad 15)) (.ref (ad 16)) (.int (nI (rs_n zr 1))) (.ref (ad 18)) (.ref (ad 19)) (.int (rs_i zr 20)) (.int (rs_i zr 21)) (.int (rs_i zr 22)) (.int (rs_i zr 23)) (.ref (ad 25)) (.ref (ad 26)) (.ref (ad 27)) (.ref (ad 28)) (.ref (ad 29)) (.ref (ad 30)) (.ref (ad 31)) (.ref (ad 32)) (.ref (ad 33)) (.int (nI (rs_n zr 3))) (.ref (ad 35)) (.ref (ad 36)) (.ref (ad 37)) (.int (rs_i zr 38)) (nI (rs_n zr 2)) t (rs_n zr 2) rfl (by omega)) (cwV 1 hts gX11_money_X11_noTake rfl rfl rfl (by decide +kernel) ⟨Nat.le_of_ble_eq_true rfl, Nat.le_of_ble_eq_true rfl⟩) (pw_preV (va_recv hKc hPc (ci := 11) (q0 := 0) rfl rfl) hPc hKc hDc hN) rfl rfl hl.1 rfl (lv_room (Nat.le_of_ble_eq_true rfl)) dX11_money_2 ⟨Nat.le_of_ble_eq_true rfl, Nat.le_of_ble_eq_true rfl⟩)) (fun r1 hr1 => ?_)
  have hr1 : (r1 = 1 ∧ ∀ j, j < (rs_n zr 2) → t ≠ nI j) ∨ (r1 = 0 ∧ ∃ j, j < (rs_n zr 2) ∧ t = nI j) := hr1
  rcases hr1 with ⟨er1, hnojt⟩ | ⟨er1, jt, hjt, egjt⟩
  · subst er1
    refine lv_if_eq (tgt := 12) hx hb dX11_money_5 (by decide) (fun c2 => ?_) (fun c2 => ?_)
    · exact absurd c2 (by decide)
    · skip
      refine vp_callSl (va_Run.run (va_runS (As := []) (rest := []) ⟨hx, hb, hml, hown, hts⟩ (c_X11_lost l  ) (va_cwS 0 hts gX11_money_X11_lost rfl rfl rfl (by decide +kernel) ⟨Nat.le_of_ble_eq_true rfl, Nat.le_of_ble_eq_true rfl⟩) (p0_preS hN) rfl rfl hl.1 rfl (lv_room (Nat.le_of_ble_eq_true rfl)) dX11_money_8 ⟨Nat.le_of_ble_eq_true rfl, Nat.le_of_ble_eq_true rfl⟩)) (fun r3 hr3 => ?_)
      have hr3 : r3 = (-9223372036854775808) := hr3
      subst hr3
      subst hQ
      exact W.lret (v := (-9223372036854775808)) hx hb hr (fun t ht hW => ⟨⟨(-9223372036854775808), zr, rfl, ⟨hI, (Or.inl ⟨hnojt, rfl, rfl⟩)⟩, (by rw [ht]; exact hP0), va_K.moved hW.alike hK, hD0⟩, (by rw [ht]; exact Nat.le_refl _), fun q _ _ => by rw [ht]⟩) (fun q h => absurd h List.not_mem_nil) dX11_money_11
  · subst er1
    subst egjt
    refine lv_if_eq (tgt := 12) hx hb dX11_money_5 (by decide) (fun c4 => ?_) (fun c4 => ?_)
    · skip
      refine lv_iload_n hx hb dX11_money_12 rfl (lv_at hl 2 rfl) ?_
      by_cases hw5 : wh = 0
      · subst hw5
        refine lv_tableIn (off := 39) (tgt := 52) hx hb dX11_money_13 (by decide) (by decide) rfl (by decide) ?_
        refine lv_aload_n hx hb dX11_money_52 rfl (lv_at hl 0 rfl) ?_
        refine lv_iload_n hx hb dX11_money_53 rfl (lv_at hl 1 rfl) ?_
        have hPc := hP.sub (ws' := [rcO qm ad zr, rcI cI ad zr 35 80, rcI cI ad zr 36 80, rcI cI ad zr 37 80]) [0, 25, 26, 27] rfl
        have hDc := hD.sub (ws' := [rcO qm ad zr, rcI cI ad zr 35 80, rcI cI ad zr 36 80, rcI cI ad zr 37 80]) [0, 25, 26, 27] (by decide) rfl
        have hKc := hK.sub (tys' := [(cI, .int)]) [0] rfl
        refine vp_callSl (va_Run.run (va_runV (As := [.int (nI jt)]) (rest := []) ⟨hx, hb, hml, hown, hts⟩ (r_X11_worthOf l dC dI cI _ qm (.int (rs_i zr 0)) (.int (rs_i zr 1)) (.ref (ad 2)) (.ref (ad 3)) (.ref (ad 4)) (.ref (ad 5)) (.int (rs_i zr 6)) (.ref (ad 7)) (.ref (ad 8)) (.ref (ad 9)) (.ref (ad 10)) (.int (nI (rs_n zr 0))) (.ref (ad 12)) (.ref (ad 13)) (.ref (ad 14)) (.ref (ad 15)) (.ref (ad 16)) (.int (nI (rs_n zr 1))) (.ref (ad 18)) (.ref (ad 19)) (.int (rs_i zr 20)) (.int (rs_i zr 21)) (.int (rs_i zr 22)) (.int (rs_i zr 23)) (.int (nI (rs_n zr 2))) (.ref (ad 25)) (.ref (ad 26)) (.ref (ad 27)) (.ref (ad 28)) (.ref (ad 29)) (.ref (ad 30)) (.ref (ad 31)) (.ref (ad 32)) (.ref (ad 33)) (.int (rs_i zr 38)) (ad 35) (ad 36) (ad 37) (nI (rs_n zr 3)) (nI jt) (rs_n zr 3) (rs_I zr 35) (rs_I zr 36) (rs_I zr 37) rfl (by omega)) (cwV 1 hts gX11_money_X11_worthOf rfl rfl rfl (by decide +kernel) ⟨Nat.le_of_ble_eq_true rfl, Nat.le_of_ble_eq_true rfl⟩) (pw_preV (va_recv hKc hPc (ci := 11) (q0 := 0) rfl rfl) hPc hKc hDc hN) rfl rfl hl.1 rfl (lv_room (Nat.le_of_ble_eq_true rfl)) dX11_money_54 ⟨Nat.le_of_ble_eq_true rfl, Nat.le_of_ble_eq_true rfl⟩)) (fun r6 hr6 => ?_)
        have hr6 : r6 = wsum (rs_I zr 35) (rs_I zr 36) (rs_I zr 37) (nI jt) (rs_n zr 3) := hr6
        have hr6 := hr6.symm
        subst hr6
        refine W.eq (g2 := F0 m 57 ls [.long (wsum (rs_I zr 35) (rs_I zr 36) (rs_I zr 37) (nI jt) (rs_n zr 3))]) rfl ?_
        subst hQ
        exact W.lret (v := wsum (rs_I zr 35) (rs_I zr 36) (rs_I zr 37) (nI jt) (rs_n zr 3)) hx hb hr (fun t ht hW => ⟨⟨wsum (rs_I zr 35) (rs_I zr 36) (rs_I zr 37) (nI jt) (rs_n zr 3), zr, rfl, ⟨hI, (Or.inr (Or.inl ⟨jt, rfl, hjt, rfl, rfl, rfl⟩))⟩, (by rw [ht]; exact hP0), va_K.moved hW.alike hK, hD0⟩, (by rw [ht]; exact Nat.le_refl _), fun q _ _ => by rw [ht]⟩) (fun q h => absurd h List.not_mem_nil) dX11_money_57
      by_cases hw7 : wh = 1
      · subst hw7
        refine lv_tableIn (off := 45) (tgt := 58) hx hb dX11_money_13 (by decide) (by decide) rfl (by decide) ?_
        refine lv_aload_n hx hb dX11_money_58 rfl (lv_at hl 0 rfl) ?_
        refine va_get (D := (dC, dI)) (ci := 11) (v := .ref (ad 31)) (C := RX11) (T := TX11) (N := 39) hx hb hts hiX11 hown hK hP 0 rfl rfl 31 (by decide) (hts (.fieldLink RX11 75 "TributePitchesModel" "costs" "[J") (by decide +kernel)) (fun _ h9 => h9) rfl dX11_money_59 ?_
        refine lv_iload_n hx hb dX11_money_62 rfl (lv_at hl 1 rfl) ?_
        refine va_lald hx hb hK hP 22 1 rfl rfl (vp_in_nI (by omega) (by omega)) dX11_money_63 ?_
        refine lv_topl (fun v8 ev8 => ?_)
        have ev8 : v8 = (rs_L zr 31) jt := by rw [ev8]; rw [nI_clamp (by omega)]
        subst ev8
        subst hQ
        exact W.lret (v := (rs_L zr 31) jt) hx hb hr (fun t ht hW => ⟨⟨(rs_L zr 31) jt, zr, rfl, ⟨hI, (Or.inr (Or.inr (Or.inl ⟨jt, rfl, hjt, rfl, rfl, rfl⟩)))⟩, (by rw [ht]; exact hP0), va_K.moved hW.alike hK, hD0⟩, (by rw [ht]; exact Nat.le_refl _), fun q _ _ => by rw [ht]⟩) (fun q h => absurd h List.not_mem_nil) dX11_money_64
      by_cases hw9 : wh = 2
      · subst hw9
        refine lv_tableIn (off := 52) (tgt := 65) hx hb dX11_money_13 (by decide) (by decide) rfl (by decide) ?_
        refine lv_aload_n hx hb dX11_money_65 rfl (lv_at hl 0 rfl) ?_
        refine va_get (D := (dC, dI)) (ci := 11) (v := .ref (ad 32)) (C := RX11) (T := TX11) (N := 39) hx hb hts hiX11 hown hK hP 0 rfl rfl 32 (by decide) (hts (.fieldLink RX11 78 "TributePitchesModel" "ahead" "[J") (by decide +kernel)) (fun _ h9 => h9) rfl dX11_money_66 ?_
        refine lv_iload_n hx hb dX11_money_69 rfl (lv_at hl 1 rfl) ?_
        refine va_lald hx hb hK hP 23 1 rfl rfl (vp_in_nI (by omega) (by omega)) dX11_money_70 ?_
        refine lv_topl (fun v10 ev10 => ?_)
        have ev10 : v10 = (rs_L zr 32) jt := by rw [ev10]; rw [nI_clamp (by omega)]
        subst ev10
        subst hQ
        exact W.lret (v := (rs_L zr 32) jt) hx hb hr (fun t ht hW => ⟨⟨(rs_L zr 32) jt, zr, rfl, ⟨hI, (Or.inr (Or.inr (Or.inr (Or.inl ⟨jt, rfl, hjt, rfl, rfl, rfl⟩))))⟩, (by rw [ht]; exact hP0), va_K.moved hW.alike hK, hD0⟩, (by rw [ht]; exact Nat.le_refl _), fun q _ _ => by rw [ht]⟩) (fun q h => absurd h List.not_mem_nil) dX11_money_71
      by_cases hw11 : wh = 3
      · subst hw11
        refine lv_tableIn (off := 59) (tgt := 72) hx hb dX11_money_13 (by decide) (by decide) rfl (by decide) ?_
        refine lv_aload_n hx hb dX11_money_72 rfl (lv_at hl 0 rfl) ?_
        refine va_get (D := (dC, dI)) (ci := 11) (v := .ref (ad 33)) (C := RX11) (T := TX11) (N := 39) hx hb hts hiX11 hown hK hP 0 rfl rfl 33 (by decide) (hts (.fieldLink RX11 81 "TributePitchesModel" "pay" "[J") (by decide +kernel)) (fun _ h9 => h9) rfl dX11_money_73 ?_
        refine lv_iload_n hx hb dX11_money_76 rfl (lv_at hl 1 rfl) ?_
        refine va_lald hx hb hK hP 24 1 rfl rfl (vp_in_nI (by omega) (by omega)) dX11_money_77 ?_
        refine lv_topl (fun v12 ev12 => ?_)
        have ev12 : v12 = (rs_L zr 33) jt := by rw [ev12]; rw [nI_clamp (by omega)]
        subst ev12
        subst hQ
        exact W.lret (v := (rs_L zr 33) jt) hx hb hr (fun t ht hW => ⟨⟨(rs_L zr 33) jt, zr, rfl, ⟨hI, (Or.inr (Or.inr (Or.inr (Or.inr (Or.inl ⟨jt, rfl, hjt, rfl, rfl, rfl⟩)))))⟩, (by rw [ht]; exact hP0), va_K.moved hW.alike hK, hD0⟩, (by rw [ht]; exact Nat.le_refl _), fun q _ _ => by rw [ht]⟩) (fun q h => absurd h List.not_mem_nil) dX11_money_78
      by_cases hw13 : wh = 4
      · subst hw13
        refine lv_tableIn (off := 66) (tgt := 79) hx hb dX11_money_13 (by decide) (by decide) rfl (by decide) ?_
        refine lv_aload_n hx hb dX11_money_79 rfl (lv_at hl 0 rfl) ?_
        refine va_get (D := (dC, dI)) (ci := 11) (v := .ref (ad 29)) (C := RX11) (T := TX11) (N := 39) hx hb hts hiX11 hown hK hP 0 rfl rfl 29 (by decide) (hts (.fieldLink RX11 69 "TributePitchesModel" "least" "[J") (by decide +kernel)) (fun _ h9 => h9) rfl dX11_money_80 ?_
        refine lv_iload_n hx hb dX11_money_83 rfl (lv_at hl 1 rfl) ?_
        refine va_lald hx hb hK hP 20 1 rfl rfl (vp_in_nI (by omega) (by omega)) dX11_money_84 ?_
        refine lv_topl (fun v14 ev14 => ?_)
        have ev14 : v14 = (rs_L zr 29) jt := by rw [ev14]; rw [nI_clamp (by omega)]
        subst ev14
        subst hQ
        exact W.lret (v := (rs_L zr 29) jt) hx hb hr (fun t ht hW => ⟨⟨(rs_L zr 29) jt, zr, rfl, ⟨hI, (Or.inr (Or.inr (Or.inr (Or.inr (Or.inr (Or.inl ⟨jt, rfl, hjt, rfl, rfl, rfl⟩))))))⟩, (by rw [ht]; exact hP0), va_K.moved hW.alike hK, hD0⟩, (by rw [ht]; exact Nat.le_refl _), fun q _ _ => by rw [ht]⟩) (fun q h => absurd h List.not_mem_nil) dX11_money_85
      by_cases hw15 : wh = 5
      · subst hw15
        refine lv_tableIn (off := 73) (tgt := 86) hx hb dX11_money_13 (by decide) (by decide) rfl (by decide) ?_
        refine lv_aload_n hx hb dX11_money_86 rfl (lv_at hl 0 rfl) ?_
        refine va_get (D := (dC, dI)) (ci := 11) (v := .ref (ad 30)) (C := RX11) (T := TX11) (N := 39) hx hb hts hiX11 hown hK hP 0 rfl rfl 30 (by decide) (hts (.fieldLink RX11 72 "TributePitchesModel" "greatest" "[J") (by decide +kernel)) (fun _ h9 => h9) rfl dX11_money_87 ?_
        refine lv_iload_n hx hb dX11_money_90 rfl (lv_at hl 1 rfl) ?_
        refine va_lald hx hb hK hP 21 1 rfl rfl (vp_in_nI (by omega) (by omega)) dX11_money_91 ?_
        refine lv_topl (fun v16 ev16 => ?_)
        have ev16 : v16 = (rs_L zr 30) jt := by rw [ev16]; rw [nI_clamp (by omega)]
        subst ev16
        subst hQ
        exact W.lret (v := (rs_L zr 30) jt) hx hb hr (fun t ht hW => ⟨⟨(rs_L zr 30) jt, zr, rfl, ⟨hI, (Or.inr (Or.inr (Or.inr (Or.inr (Or.inr (Or.inr (Or.inl ⟨jt, rfl, hjt, rfl, rfl, rfl⟩)))))))⟩, (by rw [ht]; exact hP0), va_K.moved hW.alike hK, hD0⟩, (by rw [ht]; exact Nat.le_refl _), fun q _ _ => by rw [ht]⟩) (fun q h => absurd h List.not_mem_nil) dX11_money_92
      refine lv_tableOut (tgt := 93) hx hb dX11_money_13 (tb_out6 hw5 hw7 hw9 hw11 hw13 hw15) (by decide) ?_
      refine vp_callSl (va_Run.run (va_runS (As := []) (rest := []) ⟨hx, hb, hml, hown, hts⟩ (c_X11_lost l  ) (va_cwS 0 hts gX11_money_X11_lost rfl rfl rfl (by decide +kernel) ⟨Nat.le_of_ble_eq_true rfl, Nat.le_of_ble_eq_true rfl⟩) (p0_preS hN) rfl rfl hl.1 rfl (lv_room (Nat.le_of_ble_eq_true rfl)) dX11_money_93 ⟨Nat.le_of_ble_eq_true rfl, Nat.le_of_ble_eq_true rfl⟩)) (fun r17 hr17 => ?_)
      have hr17 : r17 = (-9223372036854775808) := hr17
      subst hr17
      subst hQ
      exact W.lret (v := (-9223372036854775808)) hx hb hr (fun t ht hW => ⟨⟨(-9223372036854775808), zr, rfl, ⟨hI, (Or.inr (Or.inr (Or.inr (Or.inr (Or.inr (Or.inr (Or.inr ⟨jt, rfl, hjt, hw5, hw7, hw9, hw11, hw13, hw15, rfl, rfl⟩)))))))⟩, (by rw [ht]; exact hP0), va_K.moved hW.alike hK, hD0⟩, (by rw [ht]; exact Nat.le_refl _), fun q _ _ => by rw [ht]⟩) (fun q h => absurd h List.not_mem_nil) dX11_money_96
    · exact absurd c4 (by decide)
