def pR_strike (zr : RS2) (r : Int32) (u : RS2) : Prop :=
  ((rs_i zr 20 = -9) ∧ (¬ 0 ≤ (rs_i zr 20)) ∧ r = ((-3)) ∧ u = zr) ∨
  (∃ jp : Nat, (jp < rs_n zr 0) ∧ (rs_i zr 20 = nI jp) ∧ (rs_i zr 22 = 0 ∨ ∃ g, g < rs_n zr 1 ∧ rs_i zr 23 = nI g) ∧ (0 ≤ (rs_i zr 20)) ∧ (¬ (rs_i zr 22) = 0) ∧ (¬ (nI (rs_n zr 2)) = 40) ∧ (rs_n zr 2 < 40) ∧ r = (nI (rs_n zr 2)) ∧ u = (va_up (rs_i zr) 20 (-9), va_up (rs_n zr) 2 (rs_n zr 2 + 1), va_up (va_up (va_up (rs_I zr) 25 (upd (rs_I zr 25) (rs_n zr 2) (rs_i zr 23))) 26 (upd (rs_I zr 26) (rs_n zr 2) (rs_i zr 20))) 27 (upd (rs_I zr 27) (rs_n zr 2) (rs_i zr 21)), va_up (va_up (rs_L zr) 29 (vp_updL (rs_L zr 29) (rs_n zr 2) (fsum (onB (rs_I zr 12) (rs_I zr 14) (rs_I zr 13) (rs_I zr 15) jp) (rs_I zr 2) 48 * ((rs_I zr 16) jp).toInt64))) 30 (vp_updL (rs_L zr 30) (rs_n zr 2) (fsum (onB (rs_I zr 12) (rs_I zr 14) (rs_I zr 13) (rs_I zr 15) jp) (rs_I zr 3) 48 * ((rs_I zr 16) jp).toInt64)))) ∨
  (∃ jp : Nat, (jp < rs_n zr 0) ∧ (rs_i zr 20 = nI jp) ∧ (rs_i zr 22 = 0 ∨ ∃ g, g < rs_n zr 1 ∧ rs_i zr 23 = nI g) ∧ (0 ≤ (rs_i zr 20)) ∧ (¬ (rs_i zr 22) = 0) ∧ ((nI (rs_n zr 2)) = 40) ∧ r = ((-4)) ∧ u = zr) ∨
  (∃ jp : Nat, (jp < rs_n zr 0) ∧ (rs_i zr 20 = nI jp) ∧ (rs_i zr 22 = 0 ∨ ∃ g, g < rs_n zr 1 ∧ rs_i zr 23 = nI g) ∧ (0 ≤ (rs_i zr 20)) ∧ ((rs_i zr 22) = 0) ∧ r = ((-9)) ∧ u = (va_up (rs_i zr) 20 (-9), rs_n zr, rs_I zr, rs_L zr))
set_option maxHeartbeats 4000000 in
theorem lr_strike_1 (qm : Nat) (cI cJ cZ : ClassId) (ad : Nat → Nat) (zr : RS2) (jp : Nat) (hjp : jp < rs_n zr 0) (ep : rs_i zr 20 = nI jp) (hb9 : rs_i zr 22 = 0 ∨ ∃ g, g < rs_n zr 1 ∧ rs_i zr 23 = nI g) (c2 : 0 ≤ (rs_i zr 20)) (c3 : ¬ (rs_i zr 22) = 0) (c4 : ¬ (nI (rs_n zr 2)) = 40) (ht8 : rs_n zr 2 < 40) (hI : invR zr) : invR (va_up (rs_i zr) 20 (-9), va_up (rs_n zr) 2 (rs_n zr 2 + 1), va_up (va_up (va_up (rs_I zr) 25 (upd (rs_I zr 25) (rs_n zr 2) (rs_i zr 23))) 26 (upd (rs_I zr 26) (rs_n zr 2) (rs_i zr 20))) 27 (upd (rs_I zr 27) (rs_n zr 2) (rs_i zr 21)), va_up (va_up (rs_L zr) 29 (vp_updL (rs_L zr 29) (rs_n zr 2) (fsum (onB (rs_I zr 12) (rs_I zr 14) (rs_I zr 13) (rs_I zr 15) jp) (rs_I zr 2) 48 * ((rs_I zr 16) jp).toInt64))) 30 (vp_updL (rs_L zr 30) (rs_n zr 2) (fsum (onB (rs_I zr 12) (rs_I zr 14) (rs_I zr 13) (rs_I zr 15) jp) (rs_I zr 3) 48 * ((rs_I zr 16) jp).toInt64))) ∧ rW qm cI cJ cZ ad (va_up (rs_i zr) 20 (-9), va_up (rs_n zr) 2 (rs_n zr 2 + 1), va_up (va_up (va_up (rs_I zr) 25 (upd (rs_I zr 25) (rs_n zr 2) (rs_i zr 23))) 26 (upd (rs_I zr 26) (rs_n zr 2) (rs_i zr 20))) 27 (upd (rs_I zr 27) (rs_n zr 2) (rs_i zr 21)), va_up (va_up (rs_L zr) 29 (vp_updL (rs_L zr 29) (rs_n zr 2) (fsum (onB (rs_I zr 12) (rs_I zr 14) (rs_I zr 13) (rs_I zr 15) jp) (rs_I zr 2) 48 * ((rs_I zr 16) jp).toInt64))) 30 (vp_updL (rs_L zr 30) (rs_n zr 2) (fsum (onB (rs_I zr 12) (rs_I zr 14) (rs_I zr 13) (rs_I zr 15) jp) (rs_I zr 3) 48 * ((rs_I zr 16) jp).toInt64))) = [(qm, .inr (11, [.int (rs_i zr 0), .int (rs_i zr 1), .ref (ad 2), .ref (ad 3), .ref (ad 4), .ref (ad 5), .int (rs_i zr 6), .ref (ad 7), .ref (ad 8), .ref (ad 9), .ref (ad 10), .int (nI (rs_n zr 0)), .ref (ad 12), .ref (ad 13), .ref (ad 14), .ref (ad 15), .ref (ad 16), .int (nI (rs_n zr 1)), .ref (ad 18), .ref (ad 19), .int (-9), .int (rs_i zr 21), .int (rs_i zr 22), .int (rs_i zr 23), .int (nI (rs_n zr 2 + 1)), .ref (ad 25), .ref (ad 26), .ref (ad 27), .ref (ad 28), .ref (ad 29), .ref (ad 30), .ref (ad 31), .ref (ad 32), .ref (ad 33), .int (nI (rs_n zr 3)), .ref (ad 35), .ref (ad 36), .ref (ad 37), .int (rs_i zr 38)])), rcI cI ad zr 2 48, rcI cI ad zr 3 48, rcI cI ad zr 4 48, rcI cI ad zr 5 48, rcI cI ad zr 7 4, rcI cI ad zr 8 4, rcI cI ad zr 9 192, rcI cI ad zr 10 48, rcI cI ad zr 12 12, rcI cI ad zr 13 12, rcI cI ad zr 14 12, rcI cI ad zr 15 12, rcI cI ad zr 16 12, rcI cI ad zr 18 8, rcJ cJ ad zr 19 8, (ad 25, .inl (cI, 40, .inl (upd (rs_I zr 25) (rs_n zr 2) (rs_i zr 23)))), (ad 26, .inl (cI, 40, .inl (upd (rs_I zr 26) (rs_n zr 2) (rs_i zr 20)))), (ad 27, .inl (cI, 40, .inl (upd (rs_I zr 27) (rs_n zr 2) (rs_i zr 21)))), rcI cZ ad zr 28 40, (ad 29, .inl (cJ, 40, .inr (.inl (vp_updL (rs_L zr 29) (rs_n zr 2) (fsum (onB (rs_I zr 12) (rs_I zr 14) (rs_I zr 13) (rs_I zr 15) jp) (rs_I zr 2) 48 * ((rs_I zr 16) jp).toInt64))))), (ad 30, .inl (cJ, 40, .inr (.inl (vp_updL (rs_L zr 30) (rs_n zr 2) (fsum (onB (rs_I zr 12) (rs_I zr 14) (rs_I zr 13) (rs_I zr 15) jp) (rs_I zr 3) 48 * ((rs_I zr 16) jp).toInt64))))), rcJ cJ ad zr 31 40, rcJ cJ ad zr 32 40, rcJ cJ ad zr 33 40, rcI cI ad zr 35 80, rcI cI ad zr 36 80, rcI cI ad zr 37 80] := by
  obtain ⟨⟨hn0, hn1, hn2, hn3⟩, hfar, hlh, hss, hsold, htk, hpk⟩ := id hI
  exact ⟨(by refine ⟨⟨hn0, hn1, (show rs_n zr 2 + 1 ≤ 40 by omega), hn3⟩, hfar, hlh, hss, Or.inl rfl, (fun t ht => ?_), (fun k hk => (hpk k hk).imp (fun t q => ⟨Nat.lt_succ_of_lt q.1, q.2⟩))⟩; have ht : t < rs_n zr 2 + 1 := ht; show (∃ g, g < rs_n zr 1 ∧ upd (rs_I zr 25) (rs_n zr 2) (rs_i zr 23) t = nI g) ∧ ∃ p, p < rs_n zr 0 ∧ upd (rs_I zr 26) (rs_n zr 2) (rs_i zr 20) t = nI p; by_cases h9 : t = rs_n zr 2; (rw [h9, pk_us, pk_us]; exact ⟨hb9.elim (fun q => absurd q c3) id, jp, hjp, ep⟩); (rw [pk_un h9, pk_un h9]; exact htk t (by omega))), by simp [rW, rcO, rcI, rcJ, rs_i, rs_n, rs_I, rs_L, va_up, upd]⟩
set_option maxHeartbeats 4000000 in
theorem lr_strike_3 (qm : Nat) (cI cJ cZ : ClassId) (ad : Nat → Nat) (zr : RS2) (jp : Nat) (hjp : jp < rs_n zr 0) (ep : rs_i zr 20 = nI jp) (hb9 : rs_i zr 22 = 0 ∨ ∃ g, g < rs_n zr 1 ∧ rs_i zr 23 = nI g) (c2 : 0 ≤ (rs_i zr 20)) (c3 : (rs_i zr 22) = 0) (hI : invR zr) : invR (va_up (rs_i zr) 20 (-9), rs_n zr, rs_I zr, rs_L zr) ∧ rW qm cI cJ cZ ad (va_up (rs_i zr) 20 (-9), rs_n zr, rs_I zr, rs_L zr) = [(qm, .inr (11, [.int (rs_i zr 0), .int (rs_i zr 1), .ref (ad 2), .ref (ad 3), .ref (ad 4), .ref (ad 5), .int (rs_i zr 6), .ref (ad 7), .ref (ad 8), .ref (ad 9), .ref (ad 10), .int (nI (rs_n zr 0)), .ref (ad 12), .ref (ad 13), .ref (ad 14), .ref (ad 15), .ref (ad 16), .int (nI (rs_n zr 1)), .ref (ad 18), .ref (ad 19), .int (-9), .int (rs_i zr 21), .int (rs_i zr 22), .int (rs_i zr 23), .int (nI (rs_n zr 2)), .ref (ad 25), .ref (ad 26), .ref (ad 27), .ref (ad 28), .ref (ad 29), .ref (ad 30), .ref (ad 31), .ref (ad 32), .ref (ad 33), .int (nI (rs_n zr 3)), .ref (ad 35), .ref (ad 36), .ref (ad 37), .int (rs_i zr 38)])), rcI cI ad zr 2 48, rcI cI ad zr 3 48, rcI cI ad zr 4 48, rcI cI ad zr 5 48, rcI cI ad zr 7 4, rcI cI ad zr 8 4, rcI cI ad zr 9 192, rcI cI ad zr 10 48, rcI cI ad zr 12 12, rcI cI ad zr 13 12, rcI cI ad zr 14 12, rcI cI ad zr 15 12, rcI cI ad zr 16 12, rcI cI ad zr 18 8, rcJ cJ ad zr 19 8, rcI cI ad zr 25 40, rcI cI ad zr 26 40, rcI cI ad zr 27 40, rcI cZ ad zr 28 40, rcJ cJ ad zr 29 40, rcJ cJ ad zr 30 40, rcJ cJ ad zr 31 40, rcJ cJ ad zr 32 40, rcJ cJ ad zr 33 40, rcI cI ad zr 35 80, rcI cI ad zr 36 80, rcI cI ad zr 37 80] := by
  obtain ⟨⟨hn0, hn1, hn2, hn3⟩, hfar, hlh, hss, hsold, htk, hpk⟩ := id hI
  exact ⟨(by refine ⟨⟨hn0, hn1, hn2, hn3⟩, hfar, hlh, hss, Or.inl rfl, htk, hpk⟩), by simp [rW, rcO, rcI, rcJ, rs_i, rs_n, rs_I, rs_L, va_up, upd]⟩
set_option maxHeartbeats 4000000 in
set_option maxRecDepth 100000 in
theorem M_strike (l : Launch) (dC : Nat → ClassId) (dI : Nat → Nat → Nat) (cI cJ cZ : ClassId) (sz : Nat) (qm : Nat) (ad : Nat → Nat) (zr : RS2) (hI : invR zr) : Met l yX11_strike wsX11_strike ({ frames := 3, cells := 0, slots := 0, locals := 90 }) (pw (dC, dI) [(cI, .int), (cJ, .long), (cZ, .boolean)] (rW qm cI cJ cZ ad zr) sz [.ref qm]) (va_Qi (fun r (u : RS2) => invR u ∧ pR_strike zr r u) (fun u t => bw (dC, dI) [(cI, .int), (cJ, .long), (cZ, .boolean)] (va_A (rW qm cI cJ cZ ad zr) sz) (rW qm cI cJ cZ ad u) t) (va_A (rW qm cI cJ cZ ad zr) sz)) 0 0 (va_A (rW qm cI cJ cZ ad zr) sz) := by
  refine pw_met (cc := cX11_strike) (maxL := 1) (ret := (some .int)) (by decide) rfl (Nat.le_of_ble_eq_true rfl) ?_
  intro p e s m below meth c0 hx hb hr hml hown hlocks hnm hts hP0 hK hD0 hN hsz hA hS ls hl
  subst hsz
  have hP : va_P (dC, dI) vwCl [rcO qm ad zr, rcI cI ad zr 2 48, rcI cI ad zr 3 48, rcI cI ad zr 4 48, rcI cI ad zr 5 48, rcI cI ad zr 7 4, rcI cI ad zr 8 4, rcI cI ad zr 9 192, rcI cI ad zr 10 48, rcI cI ad zr 12 12, rcI cI ad zr 13 12, rcI cI ad zr 14 12, rcI cI ad zr 15 12, rcI cI ad zr 16 12, rcI cI ad zr 18 8, rcJ cJ ad zr 19 8, rcI cI ad zr 25 40, rcI cI ad zr 26 40, rcI cI ad zr 27 40, rcI cZ ad zr 28 40, rcJ cJ ad zr 29 40, rcJ cJ ad zr 30 40, rcJ cJ ad zr 31 40, rcJ cJ ad zr 32 40, rcJ cJ ad zr 33 40, rcI cI ad zr 35 80, rcI cI ad zr 36 80, rcI cI ad zr 37 80] s.heap := hP0
  have hD : va_D (va_A (rW qm cI cJ cZ ad zr) s.heap.size) [rcO qm ad zr, rcI cI ad zr 2 48, rcI cI ad zr 3 48, rcI cI ad zr 4 48, rcI cI ad zr 5 48, rcI cI ad zr 7 4, rcI cI ad zr 8 4, rcI cI ad zr 9 192, rcI cI ad zr 10 48, rcI cI ad zr 12 12, rcI cI ad zr 13 12, rcI cI ad zr 14 12, rcI cI ad zr 15 12, rcI cI ad zr 16 12, rcI cI ad zr 18 8, rcJ cJ ad zr 19 8, rcI cI ad zr 25 40, rcI cI ad zr 26 40, rcI cI ad zr 27 40, rcI cZ ad zr 28 40, rcJ cJ ad zr 29 40, rcJ cJ ad zr 30 40, rcJ cJ ad zr 31 40, rcJ cJ ad zr 32 40, rcJ cJ ad zr 33 40, rcI cI ad zr 35 80, rcI cI ad zr 36 80, rcI cI ad zr 37 80] := hD0
  obtain ⟨⟨hn0, hn1, hn2, hn3⟩, hfar, hlh, hss, hsold, htk, hpk⟩ := id hI
  have hl : lv_has ls 1 [(0, .ref qm)] := hl
  have hiX11 : ∀ w ∈ wsX110, w ∈ wsX11_strike := fun _ h => List.mem_cons_of_mem _ (List.mem_append_right _ (h))
  generalize hQ : MQ _ _ _ _ _ _ _ = Q
  rcases hsold with es | ⟨⟨jp, hjp, ep⟩, hb9⟩
  · skip
    refine lv_aload_n hx hb dX11_strike_0 rfl (lv_at hl 0 rfl) ?_
    refine va_get (D := (dC, dI)) (ci := 11) (v := .int (rs_i zr 20)) (C := RX11) (T := TX11) (N := 39) hx hb hts hiX11 hown hK hP 0 rfl rfl 20 (by decide) (hts (.fieldLink RX11 97 "TributePitchesModel" "sold" "I") (List.mem_of_getElem? (i := 1) rfl)) (fun _ h9 => h9) rfl dX11_strike_1 ?_
    refine lv_if_ge (tgt := 10) hx hb dX11_strike_4 (by decide) (fun c1 => ?_) (fun c1 => ?_)
    · exact absurd c1 (by rw [es]; decide)
    · skip
      refine lv_bipush (v := (-3)) hx hb dX11_strike_7 (by decide) ?_
      subst hQ
      exact W.iret (v := (-3)) hx hb hr (fun t ht hW => ⟨⟨(-3), zr, rfl, ⟨hI, (Or.inl ⟨es, c1, rfl, rfl⟩)⟩, (by rw [ht]; exact hP0), va_K.moved hW.alike hK, hD0⟩, (by rw [ht]; exact Nat.le_refl _), fun q _ _ => by rw [ht]⟩) (fun q h => absurd h List.not_mem_nil) dX11_strike_9
  · skip
    refine lv_aload_n hx hb dX11_strike_0 rfl (lv_at hl 0 rfl) ?_
    refine va_get (D := (dC, dI)) (ci := 11) (v := .int (rs_i zr 20)) (C := RX11) (T := TX11) (N := 39) hx hb hts hiX11 hown hK hP 0 rfl rfl 20 (by decide) (hts (.fieldLink RX11 97 "TributePitchesModel" "sold" "I") (List.mem_of_getElem? (i := 1) rfl)) (fun _ h9 => h9) rfl dX11_strike_1 ?_
    refine lv_if_ge (tgt := 10) hx hb dX11_strike_4 (by decide) (fun c2 => ?_) (fun c2 => ?_)
    · skip
      refine lv_aload_n hx hb dX11_strike_10 rfl (lv_at hl 0 rfl) ?_
      refine va_get (D := (dC, dI)) (ci := 11) (v := .int (rs_i zr 22)) (C := RX11) (T := TX11) (N := 39) hx hb hts hiX11 hown hK hP 0 rfl rfl 22 (by decide) (hts (.fieldLink RX11 199 "TributePitchesModel" "bids" "I") (List.mem_of_getElem? (i := 2) rfl)) (fun _ h9 => h9) rfl dX11_strike_11 ?_
      refine lv_if_ne (tgt := 26) hx hb dX11_strike_14 (by decide) (fun c3 => ?_) (fun c3 => ?_)
      · skip
        refine lv_aload_n hx hb dX11_strike_26 rfl (lv_at hl 0 rfl) ?_
        refine va_get (D := (dC, dI)) (ci := 11) (v := .int (nI (rs_n zr 2))) (C := RX11) (T := TX11) (N := 39) hx hb hts hiX11 hown hK hP 0 rfl rfl 24 (by decide) (hts (.fieldLink RX11 188 "TributePitchesModel" "takes" "I") (List.mem_of_getElem? (i := 3) rfl)) (fun _ h9 => h9) rfl dX11_strike_27 ?_
        refine lv_bipush (v := 40) hx hb dX11_strike_30 (by decide) ?_
        refine lv_icmp_ne (tgt := 38) hx hb dX11_strike_32 (by decide) (fun c4 => ?_) (fun c4 => ?_)
        · skip
          have ht8 : rs_n zr 2 < 40 := (by have q : ¬ rs_n zr 2 = 40 := fun q => c4 (by rw [q]; rfl); omega)
          refine lv_aload_n hx hb dX11_strike_38 rfl (lv_at hl 0 rfl) ?_
          refine va_get (D := (dC, dI)) (ci := 11) (v := .ref (ad 25)) (C := RX11) (T := TX11) (N := 39) hx hb hts hiX11 hown hK hP 0 rfl rfl 25 (by decide) (hts (.fieldLink RX11 56 "TributePitchesModel" "gangOf" "[I") (List.mem_of_getElem? (i := 4) rfl)) (fun _ h9 => h9) rfl dX11_strike_39 ?_
          refine lv_aload_n hx hb dX11_strike_42 rfl (lv_at hl 0 rfl) ?_
          refine va_get (D := (dC, dI)) (ci := 11) (v := .int (nI (rs_n zr 2))) (C := RX11) (T := TX11) (N := 39) hx hb hts hiX11 hown hK hP 0 rfl rfl 24 (by decide) (hts (.fieldLink RX11 188 "TributePitchesModel" "takes" "I") (List.mem_of_getElem? (i := 3) rfl)) (fun _ h9 => h9) rfl dX11_strike_43 ?_
          refine lv_aload_n hx hb dX11_strike_46 rfl (lv_at hl 0 rfl) ?_
          refine va_get (D := (dC, dI)) (ci := 11) (v := .int (rs_i zr 23)) (C := RX11) (T := TX11) (N := 39) hx hb hts hiX11 hown hK hP 0 rfl rfl 23 (by decide) (hts (.fieldLink RX11 202 "TributePitchesModel" "bidder" "I") (List.mem_of_getElem? (i := 5) rfl)) (fun _ h9 => h9) rfl dX11_strike_47 ?_
          refine va_iast hx hb hK hP hD hS 16 0 rfl rfl (vp_in_nI (by omega) (by omega)) dX11_strike_50 (fun H locs hP hD hS => ?_)
          rw [nI_clamp (n := (rs_n zr 2)) (by omega)] at hP hD
          have hP : va_P (dC, dI) vwCl [rcO qm ad zr, rcI cI ad zr 2 48, rcI cI ad zr 3 48, rcI cI ad zr 4 48, rcI cI ad zr 5 48, rcI cI ad zr 7 4, rcI cI ad zr 8 4, rcI cI ad zr 9 192, rcI cI ad zr 10 48, rcI cI ad zr 12 12, rcI cI ad zr 13 12, rcI cI ad zr 14 12, rcI cI ad zr 15 12, rcI cI ad zr 16 12, rcI cI ad zr 18 8, rcJ cJ ad zr 19 8, (ad 25, .inl (cI, 40, .inl (upd (rs_I zr 25) (rs_n zr 2) (rs_i zr 23)))), rcI cI ad zr 26 40, rcI cI ad zr 27 40, rcI cZ ad zr 28 40, rcJ cJ ad zr 29 40, rcJ cJ ad zr 30 40, rcJ cJ ad zr 31 40, rcJ cJ ad zr 32 40, rcJ cJ ad zr 33 40, rcI cI ad zr 35 80, rcI cI ad zr 36 80, rcI cI ad zr 37 80] H := hP
          have hD : va_D _ [rcO qm ad zr, rcI cI ad zr 2 48, rcI cI ad zr 3 48, rcI cI ad zr 4 48, rcI cI ad zr 5 48, rcI cI ad zr 7 4, rcI cI ad zr 8 4, rcI cI ad zr 9 192, rcI cI ad zr 10 48, rcI cI ad zr 12 12, rcI cI ad zr 13 12, rcI cI ad zr 14 12, rcI cI ad zr 15 12, rcI cI ad zr 16 12, rcI cI ad zr 18 8, rcJ cJ ad zr 19 8, (ad 25, .inl (cI, 40, .inl (upd (rs_I zr 25) (rs_n zr 2) (rs_i zr 23)))), rcI cI ad zr 26 40, rcI cI ad zr 27 40, rcI cZ ad zr 28 40, rcJ cJ ad zr 29 40, rcJ cJ ad zr 30 40, rcJ cJ ad zr 31 40, rcJ cJ ad zr 32 40, rcJ cJ ad zr 33 40, rcI cI ad zr 35 80, rcI cI ad zr 36 80, rcI cI ad zr 37 80] := hD
          refine lv_aload_n hx hb dX11_strike_51 rfl (lv_at hl 0 rfl) ?_
          refine va_get (D := (dC, dI)) (ci := 11) (v := .ref (ad 26)) (C := RX11) (T := TX11) (N := 39) hx hb hts hiX11 hown hK hP 0 rfl rfl 26 (by decide) (hts (.fieldLink RX11 59 "TributePitchesModel" "pitchOf" "[I") (List.mem_of_getElem? (i := 6) rfl)) (fun _ h9 => h9) rfl dX11_strike_52 ?_
          refine lv_aload_n hx hb dX11_strike_55 rfl (lv_at hl 0 rfl) ?_
          refine va_get (D := (dC, dI)) (ci := 11) (v := .int (nI (rs_n zr 2))) (C := RX11) (T := TX11) (N := 39) hx hb hts hiX11 hown hK hP 0 rfl rfl 24 (by decide) (hts (.fieldLink RX11 188 "TributePitchesModel" "takes" "I") (List.mem_of_getElem? (i := 3) rfl)) (fun _ h9 => h9) rfl dX11_strike_56 ?_
          refine lv_aload_n hx hb dX11_strike_59 rfl (lv_at hl 0 rfl) ?_
          refine va_get (D := (dC, dI)) (ci := 11) (v := .int (rs_i zr 20)) (C := RX11) (T := TX11) (N := 39) hx hb hts hiX11 hown hK hP 0 rfl rfl 20 (by decide) (hts (.fieldLink RX11 97 "TributePitchesModel" "sold" "I") (List.mem_of_getElem? (i := 1) rfl)) (fun _ h9 => h9) rfl dX11_strike_60 ?_
          refine va_iast hx hb hK hP hD hS 17 0 rfl rfl (vp_in_nI (by omega) (by omega)) dX11_strike_63 (fun H locs hP hD hS => ?_)
          rw [nI_clamp (n := (rs_n zr 2)) (by omega)] at hP hD
          have hP : va_P (dC, dI) vwCl [rcO qm ad zr, rcI cI ad zr 2 48, rcI cI ad zr 3 48, rcI cI ad zr 4 48, rcI cI ad zr 5 48, rcI cI ad zr 7 4, rcI cI ad zr 8 4, rcI cI ad zr 9 192, rcI cI ad zr 10 48, rcI cI ad zr 12 12, rcI cI ad zr 13 12, rcI cI ad zr 14 12, rcI cI ad zr 15 12, rcI cI ad zr 16 12, rcI cI ad zr 18 8, rcJ cJ ad zr 19 8, (ad 25, .inl (cI, 40, .inl (upd (rs_I zr 25) (rs_n zr 2) (rs_i zr 23)))), (ad 26, .inl (cI, 40, .inl (upd (rs_I zr 26) (rs_n zr 2) (rs_i zr 20)))), rcI cI ad zr 27 40, rcI cZ ad zr 28 40, rcJ cJ ad zr 29 40, rcJ cJ ad zr 30 40, rcJ cJ ad zr 31 40, rcJ cJ ad zr 32 40, rcJ cJ ad zr 33 40, rcI cI ad zr 35 80, rcI cI ad zr 36 80, rcI cI ad zr 37 80] H := hP
          have hD : va_D _ [rcO qm ad zr, rcI cI ad zr 2 48, rcI cI ad zr 3 48, rcI cI ad zr 4 48, rcI cI ad zr 5 48, rcI cI ad zr 7 4, rcI cI ad zr 8 4, rcI cI ad zr 9 192, rcI cI ad zr 10 48, rcI cI ad zr 12 12, rcI cI ad zr 13 12, rcI cI ad zr 14 12, rcI cI ad zr 15 12, rcI cI ad zr 16 12, rcI cI ad zr 18 8, rcJ cJ ad zr 19 8, (ad 25, .inl (cI, 40, .inl (upd (rs_I zr 25) (rs_n zr 2) (rs_i zr 23)))), (ad 26, .inl (cI, 40, .inl (upd (rs_I zr 26) (rs_n zr 2) (rs_i zr 20)))), rcI cI ad zr 27 40, rcI cZ ad zr 28 40, rcJ cJ ad zr 29 40, rcJ cJ ad zr 30 40, rcJ cJ ad zr 31 40, rcJ cJ ad zr 32 40, rcJ cJ ad zr 33 40, rcI cI ad zr 35 80, rcI cI ad zr 36 80, rcI cI ad zr 37 80] := hD
          refine lv_aload_n hx hb dX11_strike_64 rfl (lv_at hl 0 rfl) ?_
          refine va_get (D := (dC, dI)) (ci := 11) (v := .ref (ad 27)) (C := RX11) (T := TX11) (N := 39) hx hb hts hiX11 hown hK hP 0 rfl rfl 27 (by decide) (hts (.fieldLink RX11 62 "TributePitchesModel" "shareOf" "[I") (List.mem_of_getElem? (i := 7) rfl)) (fun _ h9 => h9) rfl dX11_strike_65 ?_
          refine lv_aload_n hx hb dX11_strike_68 rfl (lv_at hl 0 rfl) ?_
          refine va_get (D := (dC, dI)) (ci := 11) (v := .int (nI (rs_n zr 2))) (C := RX11) (T := TX11) (N := 39) hx hb hts hiX11 hown hK hP 0 rfl rfl 24 (by decide) (hts (.fieldLink RX11 188 "TributePitchesModel" "takes" "I") (List.mem_of_getElem? (i := 3) rfl)) (fun _ h9 => h9) rfl dX11_strike_69 ?_
          refine lv_aload_n hx hb dX11_strike_72 rfl (lv_at hl 0 rfl) ?_
          refine va_get (D := (dC, dI)) (ci := 11) (v := .int (rs_i zr 21)) (C := RX11) (T := TX11) (N := 39) hx hb hts hiX11 hown hK hP 0 rfl rfl 21 (by decide) (hts (.fieldLink RX11 196 "TributePitchesModel" "latest" "I") (List.mem_of_getElem? (i := 8) rfl)) (fun _ h9 => h9) rfl dX11_strike_73 ?_
          refine va_iast hx hb hK hP hD hS 18 0 rfl rfl (vp_in_nI (by omega) (by omega)) dX11_strike_76 (fun H locs hP hD hS => ?_)
          rw [nI_clamp (n := (rs_n zr 2)) (by omega)] at hP hD
          have hP : va_P (dC, dI) vwCl [rcO qm ad zr, rcI cI ad zr 2 48, rcI cI ad zr 3 48, rcI cI ad zr 4 48, rcI cI ad zr 5 48, rcI cI ad zr 7 4, rcI cI ad zr 8 4, rcI cI ad zr 9 192, rcI cI ad zr 10 48, rcI cI ad zr 12 12, rcI cI ad zr 13 12, rcI cI ad zr 14 12, rcI cI ad zr 15 12, rcI cI ad zr 16 12, rcI cI ad zr 18 8, rcJ cJ ad zr 19 8, (ad 25, .inl (cI, 40, .inl (upd (rs_I zr 25) (rs_n zr 2) (rs_i zr 23)))), (ad 26, .inl (cI, 40, .inl (upd (rs_I zr 26) (rs_n zr 2) (rs_i zr 20)))), (ad 27, .inl (cI, 40, .inl (upd (rs_I zr 27) (rs_n zr 2) (rs_i zr 21)))), rcI cZ ad zr 28 40, rcJ cJ ad zr 29 40, rcJ cJ ad zr 30 40, rcJ cJ ad zr 31 40, rcJ cJ ad zr 32 40, rcJ cJ ad zr 33 40, rcI cI ad zr 35 80, rcI cI ad zr 36 80, rcI cI ad zr 37 80] H := hP
          have hD : va_D _ [rcO qm ad zr, rcI cI ad zr 2 48, rcI cI ad zr 3 48, rcI cI ad zr 4 48, rcI cI ad zr 5 48, rcI cI ad zr 7 4, rcI cI ad zr 8 4, rcI cI ad zr 9 192, rcI cI ad zr 10 48, rcI cI ad zr 12 12, rcI cI ad zr 13 12, rcI cI ad zr 14 12, rcI cI ad zr 15 12, rcI cI ad zr 16 12, rcI cI ad zr 18 8, rcJ cJ ad zr 19 8, (ad 25, .inl (cI, 40, .inl (upd (rs_I zr 25) (rs_n zr 2) (rs_i zr 23)))), (ad 26, .inl (cI, 40, .inl (upd (rs_I zr 26) (rs_n zr 2) (rs_i zr 20)))), (ad 27, .inl (cI, 40, .inl (upd (rs_I zr 27) (rs_n zr 2) (rs_i zr 21)))), rcI cZ ad zr 28 40, rcJ cJ ad zr 29 40, rcJ cJ ad zr 30 40, rcJ cJ ad zr 31 40, rcJ cJ ad zr 32 40, rcJ cJ ad zr 33 40, rcI cI ad zr 35 80, rcI cI ad zr 36 80, rcI cI ad zr 37 80] := hD
          refine lv_aload_n hx hb dX11_strike_77 rfl (lv_at hl 0 rfl) ?_
          refine va_get (D := (dC, dI)) (ci := 11) (v := .ref (ad 29)) (C := RX11) (T := TX11) (N := 39) hx hb hts hiX11 hown hK hP 0 rfl rfl 29 (by decide) (hts (.fieldLink RX11 69 "TributePitchesModel" "least" "[J") (List.mem_of_getElem? (i := 9) rfl)) (fun _ h9 => h9) rfl dX11_strike_78 ?_
          refine lv_aload_n hx hb dX11_strike_81 rfl (lv_at hl 0 rfl) ?_
          refine va_get (D := (dC, dI)) (ci := 11) (v := .int (nI (rs_n zr 2))) (C := RX11) (T := TX11) (N := 39) hx hb hts hiX11 hown hK hP 0 rfl rfl 24 (by decide) (hts (.fieldLink RX11 188 "TributePitchesModel" "takes" "I") (List.mem_of_getElem? (i := 3) rfl)) (fun _ h9 => h9) rfl dX11_strike_82 ?_
          refine lv_aload_n hx hb dX11_strike_85 rfl (lv_at hl 0 rfl) ?_
          refine lv_aload_n hx hb dX11_strike_86 rfl (lv_at hl 0 rfl) ?_
          refine va_get (D := (dC, dI)) (ci := 11) (v := .int (rs_i zr 20)) (C := RX11) (T := TX11) (N := 39) hx hb hts hiX11 hown hK hP 0 rfl rfl 20 (by decide) (hts (.fieldLink RX11 97 "TributePitchesModel" "sold" "I") (List.mem_of_getElem? (i := 1) rfl)) (fun _ h9 => h9) rfl dX11_strike_87 ?_
          refine lv_iconst (v := 0) hx hb dX11_strike_90 (by decide) ?_
          refine W.eq (g2 := F0 m 91 ls [.int 0, .int (nI jp), .ref qm, .int (nI (rs_n zr 2)), .ref (ad 29)]) (by rw [ep]) ?_
          have hPc := hP.sub (ws' := [rcO qm ad zr, rcI cI ad zr 12 12, rcI cI ad zr 14 12, rcI cI ad zr 13 12, rcI cI ad zr 15 12, rcI cI ad zr 16 12, rcI cI ad zr 2 48]) [0, 9, 11, 10, 12, 13, 1] rfl
          have hDc := hD.sub (ws' := [rcO qm ad zr, rcI cI ad zr 12 12, rcI cI ad zr 14 12, rcI cI ad zr 13 12, rcI cI ad zr 15 12, rcI cI ad zr 16 12, rcI cI ad zr 2 48]) [0, 9, 11, 10, 12, 13, 1] (by decide) rfl
          have hKc := hK.sub (tys' := [(cI, .int)]) [0] rfl
          refine vp_callSl (va_Run.run (va_runV (As := [.int (nI jp), .int 0]) (rest := [.int (nI (rs_n zr 2)), .ref (ad 29)]) ⟨hx, hb, hml, hown, hts⟩ (r_foretoldOf_0 l dC dI cI _ qm (.int (rs_i zr 0)) (.int (rs_i zr 1)) (.ref (ad 3)) (.ref (ad 4)) (.ref (ad 5)) (.int (rs_i zr 6)) (.ref (ad 7)) (.ref (ad 8)) (.ref (ad 9)) (.ref (ad 10)) (.int (nI (rs_n zr 0))) (.int (nI (rs_n zr 1))) (.ref (ad 18)) (.ref (ad 19)) (.int (rs_i zr 20)) (.int (rs_i zr 21)) (.int (rs_i zr 22)) (.int (rs_i zr 23)) (.int (nI (rs_n zr 2))) (.ref (ad 25)) (.ref (ad 26)) (.ref (ad 27)) (.ref (ad 28)) (.ref (ad 29)) (.ref (ad 30)) (.ref (ad 31)) (.ref (ad 32)) (.ref (ad 33)) (.int (nI (rs_n zr 3))) (.ref (ad 35)) (.ref (ad 36)) (.ref (ad 37)) (.int (rs_i zr 38)) (ad 12) (ad 14) (ad 13) (ad 15) (ad 16) (ad 2) jp (rs_I zr 12) (rs_I zr 14) (rs_I zr 13) (rs_I zr 15) (rs_I zr 16) (rs_I zr 2) (by omega)) (cwV 2 hts gX11_strike_X11_foretoldOf rfl rfl rfl (by decide +kernel) ⟨Nat.le_of_ble_eq_true rfl, Nat.le_of_ble_eq_true rfl⟩) (pw_preV (va_recv hKc hPc (ci := 11) (q0 := 0) rfl rfl) hPc hKc hDc hN) rfl rfl hl.1 rfl (lv_room (Nat.le_of_ble_eq_true rfl)) dX11_strike_91 ⟨Nat.le_of_ble_eq_true rfl, Nat.le_of_ble_eq_true rfl⟩)) (fun r5 hr5 => ?_)
          have hr5 : r5 = fsum (onB (rs_I zr 12) (rs_I zr 14) (rs_I zr 13) (rs_I zr 15) jp) (rs_I zr 2) 48 * ((rs_I zr 16) jp).toInt64 := hr5
          have hr5 := hr5.symm
          subst hr5
          refine W.eq (g2 := F0 m 94 ls [.long (fsum (onB (rs_I zr 12) (rs_I zr 14) (rs_I zr 13) (rs_I zr 15) jp) (rs_I zr 2) 48 * ((rs_I zr 16) jp).toInt64), .int (nI (rs_n zr 2)), .ref (ad 29)]) rfl ?_
          refine va_last hx hb hK hP hD hS 20 1 rfl rfl (vp_in_nI (by omega) (by omega)) dX11_strike_94 (fun H locs hP hD hS => ?_)
          rw [nI_clamp (n := (rs_n zr 2)) (by omega)] at hP hD
          have hP : va_P (dC, dI) vwCl [rcO qm ad zr, rcI cI ad zr 2 48, rcI cI ad zr 3 48, rcI cI ad zr 4 48, rcI cI ad zr 5 48, rcI cI ad zr 7 4, rcI cI ad zr 8 4, rcI cI ad zr 9 192, rcI cI ad zr 10 48, rcI cI ad zr 12 12, rcI cI ad zr 13 12, rcI cI ad zr 14 12, rcI cI ad zr 15 12, rcI cI ad zr 16 12, rcI cI ad zr 18 8, rcJ cJ ad zr 19 8, (ad 25, .inl (cI, 40, .inl (upd (rs_I zr 25) (rs_n zr 2) (rs_i zr 23)))), (ad 26, .inl (cI, 40, .inl (upd (rs_I zr 26) (rs_n zr 2) (rs_i zr 20)))), (ad 27, .inl (cI, 40, .inl (upd (rs_I zr 27) (rs_n zr 2) (rs_i zr 21)))), rcI cZ ad zr 28 40, (ad 29, .inl (cJ, 40, .inr (.inl (vp_updL (rs_L zr 29) (rs_n zr 2) (fsum (onB (rs_I zr 12) (rs_I zr 14) (rs_I zr 13) (rs_I zr 15) jp) (rs_I zr 2) 48 * ((rs_I zr 16) jp).toInt64))))), rcJ cJ ad zr 30 40, rcJ cJ ad zr 31 40, rcJ cJ ad zr 32 40, rcJ cJ ad zr 33 40, rcI cI ad zr 35 80, rcI cI ad zr 36 80, rcI cI ad zr 37 80] H := hP
          have hD : va_D _ [rcO qm ad zr, rcI cI ad zr 2 48, rcI cI ad zr 3 48, rcI cI ad zr 4 48, rcI cI ad zr 5 48, rcI cI ad zr 7 4, rcI cI ad zr 8 4, rcI cI ad zr 9 192, rcI cI ad zr 10 48, rcI cI ad zr 12 12, rcI cI ad zr 13 12, rcI cI ad zr 14 12, rcI cI ad zr 15 12, rcI cI ad zr 16 12, rcI cI ad zr 18 8, rcJ cJ ad zr 19 8, (ad 25, .inl (cI, 40, .inl (upd (rs_I zr 25) (rs_n zr 2) (rs_i zr 23)))), (ad 26, .inl (cI, 40, .inl (upd (rs_I zr 26) (rs_n zr 2) (rs_i zr 20)))), (ad 27, .inl (cI, 40, .inl (upd (rs_I zr 27) (rs_n zr 2) (rs_i zr 21)))), rcI cZ ad zr 28 40, (ad 29, .inl (cJ, 40, .inr (.inl (vp_updL (rs_L zr 29) (rs_n zr 2) (fsum (onB (rs_I zr 12) (rs_I zr 14) (rs_I zr 13) (rs_I zr 15) jp) (rs_I zr 2) 48 * ((rs_I zr 16) jp).toInt64))))), rcJ cJ ad zr 30 40, rcJ cJ ad zr 31 40, rcJ cJ ad zr 32 40, rcJ cJ ad zr 33 40, rcI cI ad zr 35 80, rcI cI ad zr 36 80, rcI cI ad zr 37 80] := hD
          refine lv_aload_n hx hb dX11_strike_95 rfl (lv_at hl 0 rfl) ?_
          refine va_get (D := (dC, dI)) (ci := 11) (v := .ref (ad 30)) (C := RX11) (T := TX11) (N := 39) hx hb hts hiX11 hown hK hP 0 rfl rfl 30 (by decide) (hts (.fieldLink RX11 72 "TributePitchesModel" "greatest" "[J") (List.mem_of_getElem? (i := 10) rfl)) (fun _ h9 => h9) rfl dX11_strike_96 ?_
          refine lv_aload_n hx hb dX11_strike_99 rfl (lv_at hl 0 rfl) ?_
          refine va_get (D := (dC, dI)) (ci := 11) (v := .int (nI (rs_n zr 2))) (C := RX11) (T := TX11) (N := 39) hx hb hts hiX11 hown hK hP 0 rfl rfl 24 (by decide) (hts (.fieldLink RX11 188 "TributePitchesModel" "takes" "I") (List.mem_of_getElem? (i := 3) rfl)) (fun _ h9 => h9) rfl dX11_strike_100 ?_
          refine lv_aload_n hx hb dX11_strike_103 rfl (lv_at hl 0 rfl) ?_
          refine lv_aload_n hx hb dX11_strike_104 rfl (lv_at hl 0 rfl) ?_
          refine va_get (D := (dC, dI)) (ci := 11) (v := .int (rs_i zr 20)) (C := RX11) (T := TX11) (N := 39) hx hb hts hiX11 hown hK hP 0 rfl rfl 20 (by decide) (hts (.fieldLink RX11 97 "TributePitchesModel" "sold" "I") (List.mem_of_getElem? (i := 1) rfl)) (fun _ h9 => h9) rfl dX11_strike_105 ?_
          refine lv_iconst (v := 1) hx hb dX11_strike_108 (by decide) ?_
          refine W.eq (g2 := F0 m 109 ls [.int 1, .int (nI jp), .ref qm, .int (nI (rs_n zr 2)), .ref (ad 30)]) (by rw [ep]) ?_
          have hPc := hP.sub (ws' := [rcO qm ad zr, rcI cI ad zr 12 12, rcI cI ad zr 14 12, rcI cI ad zr 13 12, rcI cI ad zr 15 12, rcI cI ad zr 16 12, rcI cI ad zr 3 48]) [0, 9, 11, 10, 12, 13, 2] rfl
          have hDc := hD.sub (ws' := [rcO qm ad zr, rcI cI ad zr 12 12, rcI cI ad zr 14 12, rcI cI ad zr 13 12, rcI cI ad zr 15 12, rcI cI ad zr 16 12, rcI cI ad zr 3 48]) [0, 9, 11, 10, 12, 13, 2] (by decide) rfl
          have hKc := hK.sub (tys' := [(cI, .int)]) [0] rfl
          refine vp_callSl (va_Run.run (va_runV (As := [.int (nI jp), .int 1]) (rest := [.int (nI (rs_n zr 2)), .ref (ad 30)]) ⟨hx, hb, hml, hown, hts⟩ (r_foretoldOf_1 l dC dI cI _ qm (.int (rs_i zr 0)) (.int (rs_i zr 1)) (.ref (ad 2)) (.ref (ad 4)) (.ref (ad 5)) (.int (rs_i zr 6)) (.ref (ad 7)) (.ref (ad 8)) (.ref (ad 9)) (.ref (ad 10)) (.int (nI (rs_n zr 0))) (.int (nI (rs_n zr 1))) (.ref (ad 18)) (.ref (ad 19)) (.int (rs_i zr 20)) (.int (rs_i zr 21)) (.int (rs_i zr 22)) (.int (rs_i zr 23)) (.int (nI (rs_n zr 2))) (.ref (ad 25)) (.ref (ad 26)) (.ref (ad 27)) (.ref (ad 28)) (.ref (ad 29)) (.ref (ad 30)) (.ref (ad 31)) (.ref (ad 32)) (.ref (ad 33)) (.int (nI (rs_n zr 3))) (.ref (ad 35)) (.ref (ad 36)) (.ref (ad 37)) (.int (rs_i zr 38)) (ad 12) (ad 14) (ad 13) (ad 15) (ad 16) (ad 3) jp (rs_I zr 12) (rs_I zr 14) (rs_I zr 13) (rs_I zr 15) (rs_I zr 16) (rs_I zr 3) (by omega)) (cwV 2 hts gX11_strike_X11_foretoldOf rfl rfl rfl (by decide +kernel) ⟨Nat.le_of_ble_eq_true rfl, Nat.le_of_ble_eq_true rfl⟩) (pw_preV (va_recv hKc hPc (ci := 11) (q0 := 0) rfl rfl) hPc hKc hDc hN) rfl rfl hl.1 rfl (lv_room (Nat.le_of_ble_eq_true rfl)) dX11_strike_109 ⟨Nat.le_of_ble_eq_true rfl, Nat.le_of_ble_eq_true rfl⟩)) (fun r6 hr6 => ?_)
          have hr6 : r6 = fsum (onB (rs_I zr 12) (rs_I zr 14) (rs_I zr 13) (rs_I zr 15) jp) (rs_I zr 3) 48 * ((rs_I zr 16) jp).toInt64 := hr6
          have hr6 := hr6.symm
          subst hr6
          refine W.eq (g2 := F0 m 112 ls [.long (fsum (onB (rs_I zr 12) (rs_I zr 14) (rs_I zr 13) (rs_I zr 15) jp) (rs_I zr 3) 48 * ((rs_I zr 16) jp).toInt64), .int (nI (rs_n zr 2)), .ref (ad 30)]) rfl ?_
          refine va_last hx hb hK hP hD hS 21 1 rfl rfl (vp_in_nI (by omega) (by omega)) dX11_strike_112 (fun H locs hP hD hS => ?_)
          rw [nI_clamp (n := (rs_n zr 2)) (by omega)] at hP hD
          have hP : va_P (dC, dI) vwCl [rcO qm ad zr, rcI cI ad zr 2 48, rcI cI ad zr 3 48, rcI cI ad zr 4 48, rcI cI ad zr 5 48, rcI cI ad zr 7 4, rcI cI ad zr 8 4, rcI cI ad zr 9 192, rcI cI ad zr 10 48, rcI cI ad zr 12 12, rcI cI ad zr 13 12, rcI cI ad zr 14 12, rcI cI ad zr 15 12, rcI cI ad zr 16 12, rcI cI ad zr 18 8, rcJ cJ ad zr 19 8, (ad 25, .inl (cI, 40, .inl (upd (rs_I zr 25) (rs_n zr 2) (rs_i zr 23)))), (ad 26, .inl (cI, 40, .inl (upd (rs_I zr 26) (rs_n zr 2) (rs_i zr 20)))), (ad 27, .inl (cI, 40, .inl (upd (rs_I zr 27) (rs_n zr 2) (rs_i zr 21)))), rcI cZ ad zr 28 40, (ad 29, .inl (cJ, 40, .inr (.inl (vp_updL (rs_L zr 29) (rs_n zr 2) (fsum (onB (rs_I zr 12) (rs_I zr 14) (rs_I zr 13) (rs_I zr 15) jp) (rs_I zr 2) 48 * ((rs_I zr 16) jp).toInt64))))), (ad 30, .inl (cJ, 40, .inr (.inl (vp_updL (rs_L zr 30) (rs_n zr 2) (fsum (onB (rs_I zr 12) (rs_I zr 14) (rs_I zr 13) (rs_I zr 15) jp) (rs_I zr 3) 48 * ((rs_I zr 16) jp).toInt64))))), rcJ cJ ad zr 31 40, rcJ cJ ad zr 32 40, rcJ cJ ad zr 33 40, rcI cI ad zr 35 80, rcI cI ad zr 36 80, rcI cI ad zr 37 80] H := hP
          have hD : va_D _ [rcO qm ad zr, rcI cI ad zr 2 48, rcI cI ad zr 3 48, rcI cI ad zr 4 48, rcI cI ad zr 5 48, rcI cI ad zr 7 4, rcI cI ad zr 8 4, rcI cI ad zr 9 192, rcI cI ad zr 10 48, rcI cI ad zr 12 12, rcI cI ad zr 13 12, rcI cI ad zr 14 12, rcI cI ad zr 15 12, rcI cI ad zr 16 12, rcI cI ad zr 18 8, rcJ cJ ad zr 19 8, (ad 25, .inl (cI, 40, .inl (upd (rs_I zr 25) (rs_n zr 2) (rs_i zr 23)))), (ad 26, .inl (cI, 40, .inl (upd (rs_I zr 26) (rs_n zr 2) (rs_i zr 20)))), (ad 27, .inl (cI, 40, .inl (upd (rs_I zr 27) (rs_n zr 2) (rs_i zr 21)))), rcI cZ ad zr 28 40, (ad 29, .inl (cJ, 40, .inr (.inl (vp_updL (rs_L zr 29) (rs_n zr 2) (fsum (onB (rs_I zr 12) (rs_I zr 14) (rs_I zr 13) (rs_I zr 15) jp) (rs_I zr 2) 48 * ((rs_I zr 16) jp).toInt64))))), (ad 30, .inl (cJ, 40, .inr (.inl (vp_updL (rs_L zr 30) (rs_n zr 2) (fsum (onB (rs_I zr 12) (rs_I zr 14) (rs_I zr 13) (rs_I zr 15) jp) (rs_I zr 3) 48 * ((rs_I zr 16) jp).toInt64))))), rcJ cJ ad zr 31 40, rcJ cJ ad zr 32 40, rcJ cJ ad zr 33 40, rcI cI ad zr 35 80, rcI cI ad zr 36 80, rcI cI ad zr 37 80] := hD
          refine lv_aload_n hx hb dX11_strike_113 rfl (lv_at hl 0 rfl) ?_
          refine lv_dup hx hb dX11_strike_114 rfl ?_
          refine va_get (D := (dC, dI)) (ci := 11) (v := .int (nI (rs_n zr 2))) (C := RX11) (T := TX11) (N := 39) hx hb hts hiX11 hown hK hP 0 rfl rfl 24 (by decide) (hts (.fieldLink RX11 188 "TributePitchesModel" "takes" "I") (List.mem_of_getElem? (i := 3) rfl)) (fun _ h9 => h9) rfl dX11_strike_115 ?_
          refine lv_iconst (v := 1) hx hb dX11_strike_118 (by decide) ?_
          refine lv_iadd hx hb dX11_strike_119 ?_
          refine lv_topi (fun vq evq => ?_)
          have evq : vq = nI (rs_n zr 2 + 1) := by rw [evq]; exact nI_1 _
          subst evq
          refine va_put (D := (dC, dI)) (ci := 11) (v := .int (nI (rs_n zr 2 + 1))) (ty := .int) (C := RX11) (T := TX11) (N := 39) hx hb hts hiX11 tyX11 tyX11_ok nmX11 hown hK hP hD hS 0 rfl rfl 24 (by decide) (hts (.fieldLink RX11 188 "TributePitchesModel" "takes" "I") (List.mem_of_getElem? (i := 3) rfl)) (fun _ h9 => h9) rfl (by decide +kernel) rfl rfl (Nat.le_of_ble_eq_true rfl) dX11_strike_120 (fun H locs hP hD hS => ?_)
          have hP : va_P (dC, dI) vwCl [(qm, .inr (11, [.int (rs_i zr 0), .int (rs_i zr 1), .ref (ad 2), .ref (ad 3), .ref (ad 4), .ref (ad 5), .int (rs_i zr 6), .ref (ad 7), .ref (ad 8), .ref (ad 9), .ref (ad 10), .int (nI (rs_n zr 0)), .ref (ad 12), .ref (ad 13), .ref (ad 14), .ref (ad 15), .ref (ad 16), .int (nI (rs_n zr 1)), .ref (ad 18), .ref (ad 19), .int (rs_i zr 20), .int (rs_i zr 21), .int (rs_i zr 22), .int (rs_i zr 23), .int (nI (rs_n zr 2 + 1)), .ref (ad 25), .ref (ad 26), .ref (ad 27), .ref (ad 28), .ref (ad 29), .ref (ad 30), .ref (ad 31), .ref (ad 32), .ref (ad 33), .int (nI (rs_n zr 3)), .ref (ad 35), .ref (ad 36), .ref (ad 37), .int (rs_i zr 38)])), rcI cI ad zr 2 48, rcI cI ad zr 3 48, rcI cI ad zr 4 48, rcI cI ad zr 5 48, rcI cI ad zr 7 4, rcI cI ad zr 8 4, rcI cI ad zr 9 192, rcI cI ad zr 10 48, rcI cI ad zr 12 12, rcI cI ad zr 13 12, rcI cI ad zr 14 12, rcI cI ad zr 15 12, rcI cI ad zr 16 12, rcI cI ad zr 18 8, rcJ cJ ad zr 19 8, (ad 25, .inl (cI, 40, .inl (upd (rs_I zr 25) (rs_n zr 2) (rs_i zr 23)))), (ad 26, .inl (cI, 40, .inl (upd (rs_I zr 26) (rs_n zr 2) (rs_i zr 20)))), (ad 27, .inl (cI, 40, .inl (upd (rs_I zr 27) (rs_n zr 2) (rs_i zr 21)))), rcI cZ ad zr 28 40, (ad 29, .inl (cJ, 40, .inr (.inl (vp_updL (rs_L zr 29) (rs_n zr 2) (fsum (onB (rs_I zr 12) (rs_I zr 14) (rs_I zr 13) (rs_I zr 15) jp) (rs_I zr 2) 48 * ((rs_I zr 16) jp).toInt64))))), (ad 30, .inl (cJ, 40, .inr (.inl (vp_updL (rs_L zr 30) (rs_n zr 2) (fsum (onB (rs_I zr 12) (rs_I zr 14) (rs_I zr 13) (rs_I zr 15) jp) (rs_I zr 3) 48 * ((rs_I zr 16) jp).toInt64))))), rcJ cJ ad zr 31 40, rcJ cJ ad zr 32 40, rcJ cJ ad zr 33 40, rcI cI ad zr 35 80, rcI cI ad zr 36 80, rcI cI ad zr 37 80] H := hP
          have hD : va_D _ [(qm, .inr (11, [.int (rs_i zr 0), .int (rs_i zr 1), .ref (ad 2), .ref (ad 3), .ref (ad 4), .ref (ad 5), .int (rs_i zr 6), .ref (ad 7), .ref (ad 8), .ref (ad 9), .ref (ad 10), .int (nI (rs_n zr 0)), .ref (ad 12), .ref (ad 13), .ref (ad 14), .ref (ad 15), .ref (ad 16), .int (nI (rs_n zr 1)), .ref (ad 18), .ref (ad 19), .int (rs_i zr 20), .int (rs_i zr 21), .int (rs_i zr 22), .int (rs_i zr 23), .int (nI (rs_n zr 2 + 1)), .ref (ad 25), .ref (ad 26), .ref (ad 27), .ref (ad 28), .ref (ad 29), .ref (ad 30), .ref (ad 31), .ref (ad 32), .ref (ad 33), .int (nI (rs_n zr 3)), .ref (ad 35), .ref (ad 36), .ref (ad 37), .int (rs_i zr 38)])), rcI cI ad zr 2 48, rcI cI ad zr 3 48, rcI cI ad zr 4 48, rcI cI ad zr 5 48, rcI cI ad zr 7 4, rcI cI ad zr 8 4, rcI cI ad zr 9 192, rcI cI ad zr 10 48, rcI cI ad zr 12 12, rcI cI ad zr 13 12, rcI cI ad zr 14 12, rcI cI ad zr 15 12, rcI cI ad zr 16 12, rcI cI ad zr 18 8, rcJ cJ ad zr 19 8, (ad 25, .inl (cI, 40, .inl (upd (rs_I zr 25) (rs_n zr 2) (rs_i zr 23)))), (ad 26, .inl (cI, 40, .inl (upd (rs_I zr 26) (rs_n zr 2) (rs_i zr 20)))), (ad 27, .inl (cI, 40, .inl (upd (rs_I zr 27) (rs_n zr 2) (rs_i zr 21)))), rcI cZ ad zr 28 40, (ad 29, .inl (cJ, 40, .inr (.inl (vp_updL (rs_L zr 29) (rs_n zr 2) (fsum (onB (rs_I zr 12) (rs_I zr 14) (rs_I zr 13) (rs_I zr 15) jp) (rs_I zr 2) 48 * ((rs_I zr 16) jp).toInt64))))), (ad 30, .inl (cJ, 40, .inr (.inl (vp_updL (rs_L zr 30) (rs_n zr 2) (fsum (onB (rs_I zr 12) (rs_I zr 14) (rs_I zr 13) (rs_I zr 15) jp) (rs_I zr 3) 48 * ((rs_I zr 16) jp).toInt64))))), rcJ cJ ad zr 31 40, rcJ cJ ad zr 32 40, rcJ cJ ad zr 33 40, rcI cI ad zr 35 80, rcI cI ad zr 36 80, rcI cI ad zr 37 80] := hD
          refine lv_aload_n hx hb dX11_strike_123 rfl (lv_at hl 0 rfl) ?_
          refine lv_bipush (v := (-9)) hx hb dX11_strike_124 (by decide) ?_
          refine va_put (D := (dC, dI)) (ci := 11) (v := .int (-9)) (ty := .int) (C := RX11) (T := TX11) (N := 39) hx hb hts hiX11 tyX11 tyX11_ok nmX11 hown hK hP hD hS 0 rfl rfl 20 (by decide) (hts (.fieldLink RX11 97 "TributePitchesModel" "sold" "I") (List.mem_of_getElem? (i := 1) rfl)) (fun _ h9 => h9) rfl (by decide +kernel) rfl rfl (Nat.le_of_ble_eq_true rfl) dX11_strike_126 (fun H locs hP hD hS => ?_)
          have hP : va_P (dC, dI) vwCl [(qm, .inr (11, [.int (rs_i zr 0), .int (rs_i zr 1), .ref (ad 2), .ref (ad 3), .ref (ad 4), .ref (ad 5), .int (rs_i zr 6), .ref (ad 7), .ref (ad 8), .ref (ad 9), .ref (ad 10), .int (nI (rs_n zr 0)), .ref (ad 12), .ref (ad 13), .ref (ad 14), .ref (ad 15), .ref (ad 16), .int (nI (rs_n zr 1)), .ref (ad 18), .ref (ad 19), .int (-9), .int (rs_i zr 21), .int (rs_i zr 22), .int (rs_i zr 23), .int (nI (rs_n zr 2 + 1)), .ref (ad 25), .ref (ad 26), .ref (ad 27), .ref (ad 28), .ref (ad 29), .ref (ad 30), .ref (ad 31), .ref (ad 32), .ref (ad 33), .int (nI (rs_n zr 3)), .ref (ad 35), .ref (ad 36), .ref (ad 37), .int (rs_i zr 38)])), rcI cI ad zr 2 48, rcI cI ad zr 3 48, rcI cI ad zr 4 48, rcI cI ad zr 5 48, rcI cI ad zr 7 4, rcI cI ad zr 8 4, rcI cI ad zr 9 192, rcI cI ad zr 10 48, rcI cI ad zr 12 12, rcI cI ad zr 13 12, rcI cI ad zr 14 12, rcI cI ad zr 15 12, rcI cI ad zr 16 12, rcI cI ad zr 18 8, rcJ cJ ad zr 19 8, (ad 25, .inl (cI, 40, .inl (upd (rs_I zr 25) (rs_n zr 2) (rs_i zr 23)))), (ad 26, .inl (cI, 40, .inl (upd (rs_I zr 26) (rs_n zr 2) (rs_i zr 20)))), (ad 27, .inl (cI, 40, .inl (upd (rs_I zr 27) (rs_n zr 2) (rs_i zr 21)))), rcI cZ ad zr 28 40, (ad 29, .inl (cJ, 40, .inr (.inl (vp_updL (rs_L zr 29) (rs_n zr 2) (fsum (onB (rs_I zr 12) (rs_I zr 14) (rs_I zr 13) (rs_I zr 15) jp) (rs_I zr 2) 48 * ((rs_I zr 16) jp).toInt64))))), (ad 30, .inl (cJ, 40, .inr (.inl (vp_updL (rs_L zr 30) (rs_n zr 2) (fsum (onB (rs_I zr 12) (rs_I zr 14) (rs_I zr 13) (rs_I zr 15) jp) (rs_I zr 3) 48 * ((rs_I zr 16) jp).toInt64))))), rcJ cJ ad zr 31 40, rcJ cJ ad zr 32 40, rcJ cJ ad zr 33 40, rcI cI ad zr 35 80, rcI cI ad zr 36 80, rcI cI ad zr 37 80] H := hP
          have hD : va_D _ [(qm, .inr (11, [.int (rs_i zr 0), .int (rs_i zr 1), .ref (ad 2), .ref (ad 3), .ref (ad 4), .ref (ad 5), .int (rs_i zr 6), .ref (ad 7), .ref (ad 8), .ref (ad 9), .ref (ad 10), .int (nI (rs_n zr 0)), .ref (ad 12), .ref (ad 13), .ref (ad 14), .ref (ad 15), .ref (ad 16), .int (nI (rs_n zr 1)), .ref (ad 18), .ref (ad 19), .int (-9), .int (rs_i zr 21), .int (rs_i zr 22), .int (rs_i zr 23), .int (nI (rs_n zr 2 + 1)), .ref (ad 25), .ref (ad 26), .ref (ad 27), .ref (ad 28), .ref (ad 29), .ref (ad 30), .ref (ad 31), .ref (ad 32), .ref (ad 33), .int (nI (rs_n zr 3)), .ref (ad 35), .ref (ad 36), .ref (ad 37), .int (rs_i zr 38)])), rcI cI ad zr 2 48, rcI cI ad zr 3 48, rcI cI ad zr 4 48, rcI cI ad zr 5 48, rcI cI ad zr 7 4, rcI cI ad zr 8 4, rcI cI ad zr 9 192, rcI cI ad zr 10 48, rcI cI ad zr 12 12, rcI cI ad zr 13 12, rcI cI ad zr 14 12, rcI cI ad zr 15 12, rcI cI ad zr 16 12, rcI cI ad zr 18 8, rcJ cJ ad zr 19 8, (ad 25, .inl (cI, 40, .inl (upd (rs_I zr 25) (rs_n zr 2) (rs_i zr 23)))), (ad 26, .inl (cI, 40, .inl (upd (rs_I zr 26) (rs_n zr 2) (rs_i zr 20)))), (ad 27, .inl (cI, 40, .inl (upd (rs_I zr 27) (rs_n zr 2) (rs_i zr 21)))), rcI cZ ad zr 28 40, (ad 29, .inl (cJ, 40, .inr (.inl (vp_updL (rs_L zr 29) (rs_n zr 2) (fsum (onB (rs_I zr 12) (rs_I zr 14) (rs_I zr 13) (rs_I zr 15) jp) (rs_I zr 2) 48 * ((rs_I zr 16) jp).toInt64))))), (ad 30, .inl (cJ, 40, .inr (.inl (vp_updL (rs_L zr 30) (rs_n zr 2) (fsum (onB (rs_I zr 12) (rs_I zr 14) (rs_I zr 13) (rs_I zr 15) jp) (rs_I zr 3) 48 * ((rs_I zr 16) jp).toInt64))))), rcJ cJ ad zr 31 40, rcJ cJ ad zr 32 40, rcJ cJ ad zr 33 40, rcI cI ad zr 35 80, rcI cI ad zr 36 80, rcI cI ad zr 37 80] := hD
          refine lv_aload_n hx hb dX11_strike_129 rfl (lv_at hl 0 rfl) ?_
          refine va_get (D := (dC, dI)) (ci := 11) (v := .int (nI (rs_n zr 2 + 1))) (C := RX11) (T := TX11) (N := 39) hx hb hts hiX11 hown hK hP 0 rfl rfl 24 (by decide) (hts (.fieldLink RX11 188 "TributePitchesModel" "takes" "I") (List.mem_of_getElem? (i := 3) rfl)) (fun _ h9 => h9) rfl dX11_strike_130 ?_
          refine lv_iconst (v := 1) hx hb dX11_strike_133 (by decide) ?_
          refine lv_isub hx hb dX11_strike_134 ?_
          refine lv_topi (fun vw evw => ?_)
          have evw : vw = nI (rs_n zr 2) := by rw [evw]; exact nI_pred _
          subst evw
          subst hQ
          have hlf := lr_strike_1 qm cI cJ cZ ad zr jp hjp ep hb9 c2 c3 c4 ht8 hI
          have hP9 : va_P (dC, dI) vwCl (rW qm cI cJ cZ ad (va_up (rs_i zr) 20 (-9), va_up (rs_n zr) 2 (rs_n zr 2 + 1), va_up (va_up (va_up (rs_I zr) 25 (upd (rs_I zr 25) (rs_n zr 2) (rs_i zr 23))) 26 (upd (rs_I zr 26) (rs_n zr 2) (rs_i zr 20))) 27 (upd (rs_I zr 27) (rs_n zr 2) (rs_i zr 21)), va_up (va_up (rs_L zr) 29 (vp_updL (rs_L zr 29) (rs_n zr 2) (fsum (onB (rs_I zr 12) (rs_I zr 14) (rs_I zr 13) (rs_I zr 15) jp) (rs_I zr 2) 48 * ((rs_I zr 16) jp).toInt64))) 30 (vp_updL (rs_L zr 30) (rs_n zr 2) (fsum (onB (rs_I zr 12) (rs_I zr 14) (rs_I zr 13) (rs_I zr 15) jp) (rs_I zr 3) 48 * ((rs_I zr 16) jp).toInt64)))) H := by rw [hlf.2]; exact hP.sub [0, 1, 2, 3, 4, 5, 6, 7, 8, 9, 10, 11, 12, 13, 14, 15, 16, 17, 18, 19, 20, 21, 22, 23, 24, 25, 26, 27] rfl
          have hD9 : va_D (va_A (rW qm cI cJ cZ ad zr) s.heap.size) (rW qm cI cJ cZ ad (va_up (rs_i zr) 20 (-9), va_up (rs_n zr) 2 (rs_n zr 2 + 1), va_up (va_up (va_up (rs_I zr) 25 (upd (rs_I zr 25) (rs_n zr 2) (rs_i zr 23))) 26 (upd (rs_I zr 26) (rs_n zr 2) (rs_i zr 20))) 27 (upd (rs_I zr 27) (rs_n zr 2) (rs_i zr 21)), va_up (va_up (rs_L zr) 29 (vp_updL (rs_L zr 29) (rs_n zr 2) (fsum (onB (rs_I zr 12) (rs_I zr 14) (rs_I zr 13) (rs_I zr 15) jp) (rs_I zr 2) 48 * ((rs_I zr 16) jp).toInt64))) 30 (vp_updL (rs_L zr 30) (rs_n zr 2) (fsum (onB (rs_I zr 12) (rs_I zr 14) (rs_I zr 13) (rs_I zr 15) jp) (rs_I zr 3) 48 * ((rs_I zr 16) jp).toInt64)))) := by rw [hlf.2]; exact hD.sub [0, 1, 2, 3, 4, 5, 6, 7, 8, 9, 10, 11, 12, 13, 14, 15, 16, 17, 18, 19, 20, 21, 22, 23, 24, 25, 26, 27] (by decide) rfl
          exact W.iret (v := nI (rs_n zr 2)) hx hb hr (fun t ht hW => ⟨⟨nI (rs_n zr 2), (va_up (rs_i zr) 20 (-9), va_up (rs_n zr) 2 (rs_n zr 2 + 1), va_up (va_up (va_up (rs_I zr) 25 (upd (rs_I zr 25) (rs_n zr 2) (rs_i zr 23))) 26 (upd (rs_I zr 26) (rs_n zr 2) (rs_i zr 20))) 27 (upd (rs_I zr 27) (rs_n zr 2) (rs_i zr 21)), va_up (va_up (rs_L zr) 29 (vp_updL (rs_L zr 29) (rs_n zr 2) (fsum (onB (rs_I zr 12) (rs_I zr 14) (rs_I zr 13) (rs_I zr 15) jp) (rs_I zr 2) 48 * ((rs_I zr 16) jp).toInt64))) 30 (vp_updL (rs_L zr 30) (rs_n zr 2) (fsum (onB (rs_I zr 12) (rs_I zr 14) (rs_I zr 13) (rs_I zr 15) jp) (rs_I zr 3) 48 * ((rs_I zr 16) jp).toInt64))), rfl, ⟨hlf.1, (Or.inr (Or.inl ⟨jp, hjp, ep, hb9, c2, c3, c4, ht8, rfl, rfl⟩))⟩, by rw [ht]; exact hP9, va_K.moved hW.alike hK, hD9⟩, hS.F ht⟩) hS.2.2 dX11_strike_135
        · skip
          refine lv_bipush (v := (-4)) hx hb dX11_strike_35 (by decide) ?_
          subst hQ
          exact W.iret (v := (-4)) hx hb hr (fun t ht hW => ⟨⟨(-4), zr, rfl, ⟨hI, (Or.inr (Or.inr (Or.inl ⟨jp, hjp, ep, hb9, c2, c3, c4, rfl, rfl⟩)))⟩, (by rw [ht]; exact hP0), va_K.moved hW.alike hK, hD0⟩, (by rw [ht]; exact Nat.le_refl _), fun q _ _ => by rw [ht]⟩) (fun q h => absurd h List.not_mem_nil) dX11_strike_37
      · skip
        refine lv_aload_n hx hb dX11_strike_17 rfl (lv_at hl 0 rfl) ?_
        refine lv_bipush (v := (-9)) hx hb dX11_strike_18 (by decide) ?_
        refine va_put (D := (dC, dI)) (ci := 11) (v := .int (-9)) (ty := .int) (C := RX11) (T := TX11) (N := 39) hx hb hts hiX11 tyX11 tyX11_ok nmX11 hown hK hP hD hS 0 rfl rfl 20 (by decide) (hts (.fieldLink RX11 97 "TributePitchesModel" "sold" "I") (List.mem_of_getElem? (i := 1) rfl)) (fun _ h9 => h9) rfl (by decide +kernel) rfl rfl (Nat.le_of_ble_eq_true rfl) dX11_strike_20 (fun H locs hP hD hS => ?_)
        have hP : va_P (dC, dI) vwCl [(qm, .inr (11, [.int (rs_i zr 0), .int (rs_i zr 1), .ref (ad 2), .ref (ad 3), .ref (ad 4), .ref (ad 5), .int (rs_i zr 6), .ref (ad 7), .ref (ad 8), .ref (ad 9), .ref (ad 10), .int (nI (rs_n zr 0)), .ref (ad 12), .ref (ad 13), .ref (ad 14), .ref (ad 15), .ref (ad 16), .int (nI (rs_n zr 1)), .ref (ad 18), .ref (ad 19), .int (-9), .int (rs_i zr 21), .int (rs_i zr 22), .int (rs_i zr 23), .int (nI (rs_n zr 2)), .ref (ad 25), .ref (ad 26), .ref (ad 27), .ref (ad 28), .ref (ad 29), .ref (ad 30), .ref (ad 31), .ref (ad 32), .ref (ad 33), .int (nI (rs_n zr 3)), .ref (ad 35), .ref (ad 36), .ref (ad 37), .int (rs_i zr 38)])), rcI cI ad zr 2 48, rcI cI ad zr 3 48, rcI cI ad zr 4 48, rcI cI ad zr 5 48, rcI cI ad zr 7 4, rcI cI ad zr 8 4, rcI cI ad zr 9 192, rcI cI ad zr 10 48, rcI cI ad zr 12 12, rcI cI ad zr 13 12, rcI cI ad zr 14 12, rcI cI ad zr 15 12, rcI cI ad zr 16 12, rcI cI ad zr 18 8, rcJ cJ ad zr 19 8, rcI cI ad zr 25 40, rcI cI ad zr 26 40, rcI cI ad zr 27 40, rcI cZ ad zr 28 40, rcJ cJ ad zr 29 40, rcJ cJ ad zr 30 40, rcJ cJ ad zr 31 40, rcJ cJ ad zr 32 40, rcJ cJ ad zr 33 40, rcI cI ad zr 35 80, rcI cI ad zr 36 80, rcI cI ad zr 37 80] H := hP
        have hD : va_D _ [(qm, .inr (11, [.int (rs_i zr 0), .int (rs_i zr 1), .ref (ad 2), .ref (ad 3), .ref (ad 4), .ref (ad 5), .int (rs_i zr 6), .ref (ad 7), .ref (ad 8), .ref (ad 9), .ref (ad 10), .int (nI (rs_n zr 0)), .ref (ad 12), .ref (ad 13), .ref (ad 14), .ref (ad 15), .ref (ad 16), .int (nI (rs_n zr 1)), .ref (ad 18), .ref (ad 19), .int (-9), .int (rs_i zr 21), .int (rs_i zr 22), .int (rs_i zr 23), .int (nI (rs_n zr 2)), .ref (ad 25), .ref (ad 26), .ref (ad 27), .ref (ad 28), .ref (ad 29), .ref (ad 30), .ref (ad 31), .ref (ad 32), .ref (ad 33), .int (nI (rs_n zr 3)), .ref (ad 35), .ref (ad 36), .ref (ad 37), .int (rs_i zr 38)])), rcI cI ad zr 2 48, rcI cI ad zr 3 48, rcI cI ad zr 4 48, rcI cI ad zr 5 48, rcI cI ad zr 7 4, rcI cI ad zr 8 4, rcI cI ad zr 9 192, rcI cI ad zr 10 48, rcI cI ad zr 12 12, rcI cI ad zr 13 12, rcI cI ad zr 14 12, rcI cI ad zr 15 12, rcI cI ad zr 16 12, rcI cI ad zr 18 8, rcJ cJ ad zr 19 8, rcI cI ad zr 25 40, rcI cI ad zr 26 40, rcI cI ad zr 27 40, rcI cZ ad zr 28 40, rcJ cJ ad zr 29 40, rcJ cJ ad zr 30 40, rcJ cJ ad zr 31 40, rcJ cJ ad zr 32 40, rcJ cJ ad zr 33 40, rcI cI ad zr 35 80, rcI cI ad zr 36 80, rcI cI ad zr 37 80] := hD
        refine lv_bipush (v := (-9)) hx hb dX11_strike_23 (by decide) ?_
        subst hQ
        have hlf := lr_strike_3 qm cI cJ cZ ad zr jp hjp ep hb9 c2 c3 hI
        have hP9 : va_P (dC, dI) vwCl (rW qm cI cJ cZ ad (va_up (rs_i zr) 20 (-9), rs_n zr, rs_I zr, rs_L zr)) H := by rw [hlf.2]; exact hP.sub [0, 1, 2, 3, 4, 5, 6, 7, 8, 9, 10, 11, 12, 13, 14, 15, 16, 17, 18, 19, 20, 21, 22, 23, 24, 25, 26, 27] rfl
        have hD9 : va_D (va_A (rW qm cI cJ cZ ad zr) s.heap.size) (rW qm cI cJ cZ ad (va_up (rs_i zr) 20 (-9), rs_n zr, rs_I zr, rs_L zr)) := by rw [hlf.2]; exact hD.sub [0, 1, 2, 3, 4, 5, 6, 7, 8, 9, 10, 11, 12, 13, 14, 15, 16, 17, 18, 19, 20, 21, 22, 23, 24, 25, 26, 27] (by decide) rfl
        exact W.iret (v := (-9)) hx hb hr (fun t ht hW => ⟨⟨(-9), (va_up (rs_i zr) 20 (-9), rs_n zr, rs_I zr, rs_L zr), rfl, ⟨hlf.1, (Or.inr (Or.inr (Or.inr ⟨jp, hjp, ep, hb9, c2, c3, rfl, rfl⟩)))⟩, by rw [ht]; exact hP9, va_K.moved hW.alike hK, hD9⟩, hS.F ht⟩) hS.2.2 dX11_strike_25
    · exact absurd c2 (not_not_intro (by rw [ep]; exact nI_pos' (by omega)))
def psus (z : CS) (k : Nat) : Bool := decide (pmax (cs_I z 1) (rXa z (cs_N z 4 k)) (rWa z (cs_N z 4 k)) (rYa z (cs_N z 4 k)) (rHa z (cs_N z 4 k) + 1) < cs_I z 40 k)
def gpr (a b : Int64) : Nat → Int64 × Int64
  | 0 => (a, b)
  | n + 1 => if (gpr a b n).2 = 0 then gpr a b n else ((gpr a b n).2, (gpr a b n).1 - (gpr a b n).1 / (gpr a b n).2 * (gpr a b n).2)
theorem gpr_stop {a b : Int64} {i n : Nat} (h : (gpr a b i).2 = 0) (hi : i ≤ n) : (gpr a b n).1 = (gpr a b i).1 := by
  have key : ∀ k, gpr a b (i + k) = gpr a b i := by
    intro k
    induction k with
    | zero => rfl
    | succ k ih => rw [← Nat.add_assoc, gpr, ih, if_pos h]
  rw [show n = i + (n - i) by omega, key]
def skU (z : CS) (g : Nat) : Nat → Int64
  | 0 => 0
  | t + 1 => if cs_N z 2 t = g ∧ ¬ cs_I z 33 t = 0 then skU z g t + (cs_L z 1 t + cs_L z 2 t) * (2 * cs_L z 3 t) else skU z g t
def skD (z : CS) (g : Nat) : Nat → Int64
  | 0 => 0
  | t + 1 => if cs_N z 2 t = g ∧ ¬ cs_I z 33 t = 0 then skD z g t + (cs_L z 1 t + cs_L z 2 t) * (cs_L z 1 t + cs_L z 2 t) else skD z g t
set_option maxHeartbeats 4000000 in
set_option maxRecDepth 100000 in
theorem s_commonDivisor (l : Launch) (a : Int64) (b : Int64)  : Met l yX10_commonDivisor wsX10_commonDivisor ({ frames := 0, cells := 0, slots := 0, locals := 0 }) (p0 [.long a, .long b]) (vp_Sl (fun r => r = (gpr a b 128).1)) 0 0 (fun _ => False) := by
  refine p0_met (cc := cX10_commonDivisor) (maxL := 11) (ret := (some .long)) (by decide) rfl (Nat.le_of_ble_eq_true rfl) ?_
  intro p e s m below meth c0 hx hb hr hml hown hlocks hnm hts hN ls hl
  have hl : lv_has ls 11 [(0, .long a), (2, .long b)] := hl
  generalize hQ : MQ _ _ _ _ _ _ _ = Q
  refine lv_lload_n hx hb dX10_commonDivisor_0 rfl (lv_at hl 0 rfl) ?_
  refine lv_lstore (lv' := [(4, .long a), (0, .long a), (2, .long b)]) hx hb dX10_commonDivisor_1 hl (by decide) rfl (fun ls hl => ?_)
  refine lv_lload_n hx hb dX10_commonDivisor_3 rfl (lv_at hl 2 rfl) ?_
  refine lv_lstore (lv' := [(6, .long b), (4, .long a), (0, .long a), (2, .long b)]) hx hb dX10_commonDivisor_4 hl (by decide) rfl (fun ls hl => ?_)
  refine lv_iconst (v := 0) hx hb dX10_commonDivisor_6 (by decide) ?_
  refine lv_istore (lv' := [(8, .int 0), (6, .long b), (4, .long a), (0, .long a), (2, .long b)]) hx hb dX10_commonDivisor_7 hl (by decide) rfl (fun ls hl => ?_)
  have loop9 : ∀ (ni9 i9 : Nat) (x9 : Int64) (y9 : Int64) (ls : Array Slot), i9 ≤ 128 → 128 + 1 ≤ i9 + ni9 → x9 = (gpr a b i9).1 → y9 = (gpr a b i9).2 → lv_has ls 11 [(8, .int (nI i9)), (6, .long y9), (4, .long x9), (0, .long a), (2, .long b)] → W p l e ({ frames := 0, cells := 0, slots := 0, locals := 0 } : Room) s m ([.long a, .long b] : List Value).toArray below meth c0 s.heap [] 0 0 Q (F0 m 9 ls []) := by
    intro ni9
    induction ni9 with
    | zero =>
      intro i9 x9 y9 ls h1 h2
      exact absurd h2 (by omega)
    | succ ni9 ihi9 =>
      intro i9 x9 y9 ls hlei9 hni9 hx9 hy9 hl
      refine lv_iload hx hb dX10_commonDivisor_9 (lv_at hl 0 rfl) ?_
      refine lv_sipush (v := 128) hx hb dX10_commonDivisor_11 (by decide) ?_
      refine lv_icmp_ge (tgt := 45) hx hb dX10_commonDivisor_14 (by decide) (fun c1 => ?_) (fun c1 => ?_)
      · skip
        have hei9 : i9 = 128 := (by have q := (nI_leI (a := 128) (b := i9) (by omega) (by omega)).mp c1; omega)
        refine lv_lload hx hb dX10_commonDivisor_45 (lv_at hl 2 rfl) ?_
        subst hQ
        exact W.lret (v := x9) hx hb hr (fun t ht hW => ⟨x9, rfl, (by rw [hx9, hei9]), ht⟩) (fun q h => absurd h List.not_mem_nil) dX10_commonDivisor_47
      · skip
        have hlti9 : i9 < 128 := (Nat.lt_or_ge i9 128).elim id (fun q => absurd (show nI 128 ≤ nI i9 from nI_le q (by omega)) c1)
        refine lv_lload hx hb dX10_commonDivisor_17 (lv_at hl 1 rfl) ?_
        refine lv_lconst (v := 0) hx hb dX10_commonDivisor_19 (by decide) ?_
        refine W.lcmp hx hb dX10_commonDivisor_20 ?_
        refine lv_if_eq (tgt := 45) hx hb dX10_commonDivisor_21 (by decide) (fun c2 => ?_) (fun c2 => ?_)
        · skip
          have c2 := (lg_cmp_eq _ _).mp c2
          refine lv_lload hx hb dX10_commonDivisor_45 (lv_at hl 2 rfl) ?_
          subst hQ
          exact W.lret (v := x9) hx hb hr (fun t ht hW => ⟨x9, rfl, (by rw [hx9]; exact (gpr_stop (hy9 ▸ c2) (by omega)).symm), ht⟩) (fun q h => absurd h List.not_mem_nil) dX10_commonDivisor_47
        · skip
          have c2 := fun h => c2 ((lg_cmp_eq _ _).mpr h)
          refine lv_lload hx hb dX10_commonDivisor_24 (lv_at hl 2 rfl) ?_
          refine lv_lload hx hb dX10_commonDivisor_26 (lv_at hl 1 rfl) ?_
          refine lv_lrem hx hb dX10_commonDivisor_28 c2 ?_
          refine lv_lstore (lv' := [(9, .long (x9 - x9 / y9 * y9)), (8, .int (nI i9)), (6, .long y9), (4, .long x9), (0, .long a), (2, .long b)]) hx hb dX10_commonDivisor_29 hl (by decide) rfl (fun ls hl => ?_)
          refine lv_lload hx hb dX10_commonDivisor_31 (lv_at hl 2 rfl) ?_
          refine lv_lstore (lv' := [(4, .long y9), (9, .long (x9 - x9 / y9 * y9)), (8, .int (nI i9)), (6, .long y9), (0, .long a), (2, .long b)]) hx hb dX10_commonDivisor_33 hl (by decide) rfl (fun ls hl => ?_)
          refine lv_lload hx hb dX10_commonDivisor_35 (lv_at hl 1 rfl) ?_
          refine lv_lstore (lv' := [(6, .long (x9 - x9 / y9 * y9)), (4, .long y9), (9, .long (x9 - x9 / y9 * y9)), (8, .int (nI i9)), (0, .long a), (2, .long b)]) hx hb dX10_commonDivisor_37 hl (by decide) rfl (fun ls hl => ?_)
          refine lv_iinc (v := nI (i9 + 1)) (lv' := [(8, .int (nI (i9 + 1))), (6, .long (x9 - x9 / y9 * y9)), (4, .long y9), (9, .long (x9 - x9 / y9 * y9)), (0, .long a), (2, .long b)]) hx hb dX10_commonDivisor_39 hl (k := 3) rfl (nI_1 i9) (by decide) rfl (fun ls hl => ?_)
          refine lv_goto (tgt := 9) hx hb dX10_commonDivisor_42 (by decide) ?_
          exact ihi9 (i9 + 1) y9 (x9 - x9 / y9 * y9) ls (by omega) (by omega) (by rw [gpr, if_neg (hy9 ▸ c2)]; exact hy9) (by rw [gpr, if_neg (hy9 ▸ c2), ← hx9, ← hy9]) (lv_sub hl [0, 1, 2, 4, 5] rfl)
  exact loop9 (128 + 1 - 0) 0 a b ls (by omega) (by omega) rfl rfl (lv_sub hl [0, 1, 2, 3, 4] rfl)
def pC_suspects (zc : CS) (r : Int32) (u : CS) : Prop :=
  (r = (nI (fa_cnt (psus zc) (cs_n zc 3))) ∧ u = zc)
set_option maxHeartbeats 4000000 in
set_option maxRecDepth 100000 in
theorem K_suspects (l : Launch) (dC : Nat → ClassId) (dI : Nat → Nat → Nat) (cA : Nat → ClassId) (sz : Nat) (zc : CS) (hI : invC zc) : Met l yX10_suspects wsX10_suspects ({ frames := 3, cells := 0, slots := 0, locals := 90 }) (kw (dC, dI) (ctys cA) (cF cA zc) sz [.ref (cs_X zc 0 0)]) (kQi (dC, dI) (ctys cA) (cF cA zc) sz (cF cA) (fun r u => (invC u ∧ cs_X u 0 0 = cs_X zc 0 0) ∧ pC_suspects zc r u)) 0 0 (kA (cF cA zc) sz) := by
  refine kw_met (cc := cX10_suspects) (maxL := 3) (ret := (some .int)) (by decide) rfl (Nat.le_of_ble_eq_true rfl) ?_
  intro p e s m below meth c0 hx hb hr hml hown hlocks hnm hts hPk hKk hDk hN hsz ls hl
  subst hsz
  have hK : va_K (dC, dI) vwCl [(cA 0, .int), (cA 1, .object RX6), (cA 2, .object RX2), (cA 3, .object RX8), (cA 4, .object RX5), (cA 5, .object RX7)] s := hKk
  obtain ⟨⟨hn0, hn1, hn2, hn3, hn4, hn5⟩, hpi, hgk, htk, hpk, hsh⟩ := id hI
  have hl : lv_has ls 3 [(0, .ref (cs_X zc 0 0))] := hl
  have hiX10 : ∀ w ∈ wsX100, w ∈ wsX10_suspects := fun _ h => List.mem_cons_of_mem _ (List.mem_append_left _ (List.mem_append_left _ (List.mem_append_left _ (List.mem_append_right _ (h)))))
  generalize hQ : MQ _ _ _ _ _ _ _ = Q
  have hks : kAll (cF cA zc) [(0, 0), (0, 9)] [cTP zc, cR9 cA zc] := ⟨(kF_tp (cA := cA) (z := zc)), (kF_r9 (cA := cA) (z := zc)), trivial⟩
  have hP : va_P (dC, dI) vwCl [cTP zc, cR9 cA zc] s.heap := kAll_P hPk hks
  have hD : va_D (va_A [cTP zc, cR9 cA zc] s.heap.size) [cTP zc, cR9 cA zc] := (kAll_D hDk hks (by simp)).self
  have hA : ∀ q : Nat, s.heap.size ≤ q → va_A [cTP zc, cR9 cA zc] s.heap.size q := fun q h => Or.inr h
  have hS : va_S (va_A [cTP zc, cR9 cA zc] s.heap.size) s.heap s.heap [] := va_S.rf
  refine lv_iconst (v := 0) hx hb dX10_suspects_0 (by decide) ?_
  refine lv_istore_n (lv' := [(1, .int 0), (0, .ref (cs_X zc 0 0))]) hx hb dX10_suspects_1 rfl hl (by decide) rfl (fun ls hl => ?_)
  refine lv_iconst (v := 0) hx hb dX10_suspects_2 (by decide) ?_
  refine lv_istore_n (lv' := [(2, .int 0), (1, .int 0), (0, .ref (cs_X zc 0 0))]) hx hb dX10_suspects_3 rfl hl (by decide) rfl (fun ls hl => ?_)
  have loop4 : ∀ (ni4 i4 : Nat) (ls : Array Slot), i4 ≤ (cs_n zc 3) → (cs_n zc 3) + 1 ≤ i4 + ni4 → lv_has ls 3 [(2, .int (nI i4)), (1, .int (nI (fa_cnt (psus zc) i4))), (0, .ref (cs_X zc 0 0))] → W p l e ({ frames := 3, cells := 0, slots := 0, locals := 90 } : Room) s m ([.ref (cs_X zc 0 0)] : List Value).toArray below meth c0 s.heap [] 0 0 Q (F0 m 4 ls []) := by
    intro ni4
    induction ni4 with
    | zero =>
      intro i4  ls h1 h2
      exact absurd h2 (by omega)
    | succ ni4 ihi4 =>
      intro i4  ls hlei4 hni4  hl
      refine lv_iload_n hx hb dX10_suspects_4 rfl (lv_at hl 0 rfl) ?_
      refine lv_aload_n hx hb dX10_suspects_5 rfl (lv_at hl 2 rfl) ?_
      refine va_get (D := (dC, dI)) (ci := 10) (v := .int (nI (cs_n zc 3))) (C := RX10) (T := TX10) (N := 13) hx hb hts hiX10 hown hK hP 0 rfl rfl 10 (by decide) (hts (.fieldLink RX10 242 "TributePitches" "parcelCount" "I") (List.mem_of_getElem? (i := 1) rfl)) (fun _ h9 => h9) rfl dX10_suspects_6 ?_
      refine lv_icmp_ge (tgt := 37) hx hb dX10_suspects_9 (by decide) (fun c1 => ?_) (fun c1 => ?_)
      · skip
        have hei4 : (cs_n zc 3) = i4 := (by have q := (nI_leI (a := (cs_n zc 3)) (b := i4) (by omega) (by omega)).mp c1; omega)
        subst hei4
        refine lv_iload_n hx hb dX10_suspects_37 rfl (lv_at hl 1 rfl) ?_
        subst hQ
        exact W.iret (v := nI (fa_cnt (psus zc) (cs_n zc 3))) hx hb hr (fun t ht hW => ⟨⟨nI (fa_cnt (psus zc) (cs_n zc 3)), zc, rfl, ⟨⟨hI, rfl⟩, ⟨rfl, rfl⟩⟩, (by rw [ht]; exact hPk), va_K.moved hW.alike hKk, kDA_self hDk⟩, (kw_same hPk ht).2⟩) (fun q h => absurd h List.not_mem_nil) dX10_suspects_38
      · skip
        have hlti4 : i4 < (cs_n zc 3) := (Nat.lt_or_ge i4 (cs_n zc 3)).elim id (fun q => absurd (nI_le q (by omega)) c1)
        refine lv_aload_n hx hb dX10_suspects_12 rfl (lv_at hl 2 rfl) ?_
        refine va_get (D := (dC, dI)) (ci := 10) (v := .ref (cs_X zc 0 9)) (C := RX10) (T := TX10) (N := 13) hx hb hts hiX10 hown hK hP 0 rfl rfl 4 (by decide) (hts (.fieldLink RX10 38 "TributePitches" "parcels" "[LTributePitches$Parcel;") (List.mem_of_getElem? (i := 2) rfl)) (fun _ h9 => h9) rfl dX10_suspects_13 ?_
        refine lv_iload_n hx hb dX10_suspects_16 rfl (lv_at hl 0 rfl) ?_
        refine va_aldq hx hb hK hP 1 4 rfl rfl (vp_in_nI (by omega) (by omega)) dX10_suspects_17 ?_
        refine W.eq (g2 := F0 m 18 ls [.ref (cs_X zc 4 i4)]) (by rw [nI_clamp (by omega), rfN_at hlti4]; rfl) ?_
        have hks : kAll (cF cA zc) [(0, 0), (0, 9), (4, i4), (1, cs_N zc 4 i4), (0, 1), (0, 3)] [cTP zc, cR9 cA zc, cPa zc i4, cPi zc (cs_N zc 4 i4), cLo zc, cA3 cA zc] := ⟨(kF_tp (cA := cA) (z := zc)), (kF_r9 (cA := cA) (z := zc)), (kF_pa (z := zc) hlti4), (kF_pi (z := zc) (j := cs_N zc 4 i4) (hpk i4 hlti4)), (kF_lo (cA := cA) (z := zc)), (kF_a3 (cA := cA) (z := zc)), trivial⟩
        have hP : va_P (dC, dI) vwCl [cTP zc, cR9 cA zc, cPa zc i4, cPi zc (cs_N zc 4 i4), cLo zc, cA3 cA zc] s.heap := kAll_P hPk hks
        have hD : va_D (va_A [cTP zc, cR9 cA zc, cPa zc i4, cPi zc (cs_N zc 4 i4), cLo zc, cA3 cA zc] s.heap.size) [cTP zc, cR9 cA zc, cPa zc i4, cPi zc (cs_N zc 4 i4), cLo zc, cA3 cA zc] := (kAll_D hDk hks (by simp)).self
        have hA : ∀ q : Nat, s.heap.size ≤ q → va_A [cTP zc, cR9 cA zc, cPa zc i4, cPi zc (cs_N zc 4 i4), cLo zc, cA3 cA zc] s.heap.size q := fun q h => Or.inr h
        have hS : va_S (va_A [cTP zc, cR9 cA zc, cPa zc i4, cPi zc (cs_N zc 4 i4), cLo zc, cA3 cA zc] s.heap.size) s.heap s.heap [] := va_S.rf
        refine lv_aload_n hx hb dX10_suspects_18 rfl (lv_at hl 2 rfl) ?_
        refine va_get (D := (dC, dI)) (ci := 10) (v := .ref (cs_X zc 0 1)) (C := RX10) (T := TX10) (N := 13) hx hb hts hiX10 hown hK hP 0 rfl rfl 0 (by decide) (hts (.fieldLink RX10 12 "TributePitches" "lode" "LTributePitches$Lode;") (List.mem_of_getElem? (i := 3) rfl)) (fun _ h9 => h9) rfl dX10_suspects_19 ?_
        have hPc := hP.sub (ws' := [cPa zc i4, cPi zc (cs_N zc 4 i4), cLo zc, cA3 cA zc]) [2, 3, 4, 5] rfl
        have hDc := hD.sub (ws' := [cPa zc i4, cPi zc (cs_N zc 4 i4), cLo zc, cA3 cA zc]) [2, 3, 4, 5] (by decide) rfl
        have hKc := hK.sub (tys' := [(cA 0, .int)]) [0] rfl
        refine vp_callSi (va_Run.run (va_runV (As := [.ref (cs_X zc 0 1)]) (rest := []) ⟨hx, hb, hml, hown, hts⟩ (s_isSuspect l dC dI (cA 0) _ (cs_X zc 4 i4) (cs_X zc 1 (cs_N zc 4 i4)) (cs_X zc 0 1) (cs_X zc 0 3) (.int (nI (cs_N zc 4 i4))) (.int (cs_I zc 15 (cs_N zc 4 i4))) (.int (cs_I zc 16 (cs_N zc 4 i4))) (va_rf (opN (cs_N zc 0 (cs_N zc 4 i4)) (cs_X zc 3))) (cs_I zc 11 (cs_N zc 4 i4)) (cs_I zc 12 (cs_N zc 4 i4)) (cs_I zc 13 (cs_N zc 4 i4)) (cs_I zc 14 (cs_N zc 4 i4)) (rXa zc (cs_N zc 4 i4)) (rWa zc (cs_N zc 4 i4)) (rYa zc (cs_N zc 4 i4)) (rHa zc (cs_N zc 4 i4)) (cs_I zc 1) (.ref (cs_X zc 0 2)) (.ref (cs_X zc 0 4)) (.ref (cs_X zc 0 5)) (.int (cs_i zc 0)) (cs_I zc 40 i4) (rectF hI (hpk i4 hlti4)).1 (rectF hI (hpk i4 hlti4)).2.1 (rectF hI (hpk i4 hlti4)).2.2.1 (rectF hI (hpk i4 hlti4)).2.2.2.1 (rectF hI (hpk i4 hlti4)).2.2.2.2.1 (rectF hI (hpk i4 hlti4)).2.2.2.2.2) (cwV 1 hts gX10_suspects_X5_isSuspect rfl rfl rfl (by decide +kernel) ⟨Nat.le_of_ble_eq_true rfl, Nat.le_of_ble_eq_true rfl⟩) (pw_preV (va_recv hKc hPc (ci := 5) (q0 := 0) rfl rfl) hPc hKc hDc hN) rfl rfl hl.1 rfl (lv_room (Nat.le_of_ble_eq_true rfl)) dX10_suspects_22 ⟨Nat.le_of_ble_eq_true rfl, Nat.le_of_ble_eq_true rfl⟩)) (fun r2 hr2 => ?_)
        have hr2 : r2 = if pmax (cs_I zc 1) (rXa zc (cs_N zc 4 i4)) (rWa zc (cs_N zc 4 i4)) (rYa zc (cs_N zc 4 i4)) ((rHa zc (cs_N zc 4 i4)) + 1) < (cs_I zc 40 i4) then 1 else 0 := hr2
        have hr2 : r2 = if psus zc i4 = true then 1 else 0 := by rw [hr2]; simp [psus]
        refine lv_if_eq (tgt := 31) hx hb dX10_suspects_25 (by decide) (fun c3 => ?_) (fun c3 => ?_)
        · skip
          have c3 := (fa_bool_prop hr2).1.mp c3
          refine lv_iinc (v := nI (i4 + 1)) (lv' := [(2, .int (nI (i4 + 1))), (1, .int (nI (fa_cnt (psus zc) i4))), (0, .ref (cs_X zc 0 0))]) hx hb dX10_suspects_31 hl (k := 0) rfl (nI_1 i4) (by decide) rfl (fun ls hl => ?_)
          refine lv_goto (tgt := 4) hx hb dX10_suspects_34 (by decide) ?_
          have e9 : fa_cnt (psus zc) (i4 + 1) = fa_cnt (psus zc) i4 := fa_cnt_no (by simpa using c3)
          rw [← e9] at hl
          have hl : lv_has ls 3 [(2, .int (nI (i4 + 1))), (1, .int (nI (fa_cnt (psus zc) (i4 + 1)))), (0, .ref (cs_X zc 0 0))] := hl
          exact ihi4 (i4 + 1)  ls (by omega) (by omega)  (lv_sub hl [0, 1, 2] rfl)
        · skip
          have c3 := (fa_bool_prop hr2).2.mp c3
          refine lv_iinc (v := nI (fa_cnt (psus zc) i4 + 1)) (lv' := [(1, .int (nI (fa_cnt (psus zc) i4 + 1))), (2, .int (nI i4)), (0, .ref (cs_X zc 0 0))]) hx hb dX10_suspects_28 hl (k := 1) rfl (nI_1 _) (by decide) rfl (fun ls hl => ?_)
          refine lv_iinc (v := nI (i4 + 1)) (lv' := [(2, .int (nI (i4 + 1))), (1, .int (nI (fa_cnt (psus zc) i4 + 1))), (0, .ref (cs_X zc 0 0))]) hx hb dX10_suspects_31 hl (k := 1) rfl (nI_1 i4) (by decide) rfl (fun ls hl => ?_)
          refine lv_goto (tgt := 4) hx hb dX10_suspects_34 (by decide) ?_
          have e9 : fa_cnt (psus zc) (i4 + 1) = fa_cnt (psus zc) i4 + 1 := fa_cnt_yes c3
          rw [← e9] at hl
          have hl : lv_has ls 3 [(2, .int (nI (i4 + 1))), (1, .int (nI (fa_cnt (psus zc) (i4 + 1)))), (0, .ref (cs_X zc 0 0))] := hl
          exact ihi4 (i4 + 1)  ls (by omega) (by omega)  (lv_sub hl [0, 1, 2] rfl)
  exact loop4 ((cs_n zc 3) + 1 - 0) 0  ls (by omega) (by omega)  (lv_sub hl [0, 1, 2] rfl)
def pC_suspect (zc : CS) (ix : Int32) (r : Int32) (u : CS) : Prop :=
  ((∀ q, q < cs_n zc 3 → psus zc q = true → ix ≠ nI (fa_cnt (psus zc) q)) ∧ r = ((-1)) ∧ u = zc) ∨
  (∃ i4 : Nat, (i4 < cs_n zc 3) ∧ (psus zc i4 = true) ∧ (nI (fa_cnt (psus zc) i4) = ix) ∧ r = (nI i4) ∧ u = zc)
set_option maxHeartbeats 4000000 in
set_option maxRecDepth 100000 in
theorem K_suspect (l : Launch) (dC : Nat → ClassId) (dI : Nat → Nat → Nat) (cA : Nat → ClassId) (sz : Nat) (zc : CS) (ix : Int32) (hI : invC zc) : Met l yX10_suspect wsX10_suspect ({ frames := 3, cells := 0, slots := 0, locals := 90 }) (kw (dC, dI) (ctys cA) (cF cA zc) sz [.ref (cs_X zc 0 0), .int ix]) (kQi (dC, dI) (ctys cA) (cF cA zc) sz (cF cA) (fun r u => (invC u ∧ cs_X u 0 0 = cs_X zc 0 0) ∧ pC_suspect zc ix r u)) 0 0 (kA (cF cA zc) sz) := by
  refine kw_met (cc := cX10_suspect) (maxL := 4) (ret := (some .int)) (by decide) rfl (Nat.le_of_ble_eq_true rfl) ?_
  intro p e s m below meth c0 hx hb hr hml hown hlocks hnm hts hPk hKk hDk hN hsz ls hl
  subst hsz
  have hK : va_K (dC, dI) vwCl [(cA 0, .int), (cA 1, .object RX6), (cA 2, .object RX2), (cA 3, .object RX8), (cA 4, .object RX5), (cA 5, .object RX7)] s := hKk
  obtain ⟨⟨hn0, hn1, hn2, hn3, hn4, hn5⟩, hpi, hgk, htk, hpk, hsh⟩ := id hI
  have hl : lv_has ls 4 [(0, .ref (cs_X zc 0 0)), (1, .int ix)] := hl
  have hiX10 : ∀ w ∈ wsX100, w ∈ wsX10_suspect := fun _ h => List.mem_cons_of_mem _ (List.mem_append_left _ (List.mem_append_left _ (List.mem_append_left _ (List.mem_append_right _ (h)))))
  generalize hQ : MQ _ _ _ _ _ _ _ = Q
  have hks : kAll (cF cA zc) [(0, 0), (0, 9)] [cTP zc, cR9 cA zc] := ⟨(kF_tp (cA := cA) (z := zc)), (kF_r9 (cA := cA) (z := zc)), trivial⟩
  have hP : va_P (dC, dI) vwCl [cTP zc, cR9 cA zc] s.heap := kAll_P hPk hks
  have hD : va_D (va_A [cTP zc, cR9 cA zc] s.heap.size) [cTP zc, cR9 cA zc] := (kAll_D hDk hks (by simp)).self
  have hA : ∀ q : Nat, s.heap.size ≤ q → va_A [cTP zc, cR9 cA zc] s.heap.size q := fun q h => Or.inr h
  have hS : va_S (va_A [cTP zc, cR9 cA zc] s.heap.size) s.heap s.heap [] := va_S.rf
  refine lv_iconst (v := 0) hx hb dX10_suspect_0 (by decide) ?_
  refine lv_istore_n (lv' := [(2, .int 0), (0, .ref (cs_X zc 0 0)), (1, .int ix)]) hx hb dX10_suspect_1 rfl hl (by decide) rfl (fun ls hl => ?_)
  refine lv_iconst (v := 0) hx hb dX10_suspect_2 (by decide) ?_
  refine lv_istore_n (lv' := [(3, .int 0), (2, .int 0), (0, .ref (cs_X zc 0 0)), (1, .int ix)]) hx hb dX10_suspect_3 rfl hl (by decide) rfl (fun ls hl => ?_)
  have loop4 : ∀ (ni4 i4 : Nat) (ls : Array Slot), i4 ≤ (cs_n zc 3) → (cs_n zc 3) + 1 ≤ i4 + ni4 → (∀ q, q < i4 → psus zc q = true → ix ≠ nI (fa_cnt (psus zc) q)) → lv_has ls 4 [(3, .int (nI i4)), (2, .int (nI (fa_cnt (psus zc) i4))), (0, .ref (cs_X zc 0 0)), (1, .int ix)] → W p l e ({ frames := 3, cells := 0, slots := 0, locals := 90 } : Room) s m ([.ref (cs_X zc 0 0), .int ix] : List Value).toArray below meth c0 s.heap [] 0 0 Q (F0 m 4 ls []) := by
    intro ni4
    induction ni4 with
    | zero =>
      intro i4  ls h1 h2
      exact absurd h2 (by omega)
    | succ ni4 ihi4 =>
      intro i4  ls hlei4 hni4 hall hl
      refine lv_iload_n hx hb dX10_suspect_4 rfl (lv_at hl 0 rfl) ?_
      refine lv_aload_n hx hb dX10_suspect_5 rfl (lv_at hl 2 rfl) ?_
      refine va_get (D := (dC, dI)) (ci := 10) (v := .int (nI (cs_n zc 3))) (C := RX10) (T := TX10) (N := 13) hx hb hts hiX10 hown hK hP 0 rfl rfl 10 (by decide) (hts (.fieldLink RX10 242 "TributePitches" "parcelCount" "I") (List.mem_of_getElem? (i := 1) rfl)) (fun _ h9 => h9) rfl dX10_suspect_6 ?_
      refine lv_icmp_ge (tgt := 47) hx hb dX10_suspect_9 (by decide) (fun c1 => ?_) (fun c1 => ?_)
      · skip
        have hei4 : (cs_n zc 3) = i4 := (by have q := (nI_leI (a := (cs_n zc 3)) (b := i4) (by omega) (by omega)).mp c1; omega)
        subst hei4
        refine lv_iconst (v := (-1)) hx hb dX10_suspect_47 (by decide) ?_
        subst hQ
        exact W.iret (v := (-1)) hx hb hr (fun t ht hW => ⟨⟨(-1), zc, rfl, ⟨⟨hI, rfl⟩, (Or.inl ⟨hall, rfl, rfl⟩)⟩, (by rw [ht]; exact hPk), va_K.moved hW.alike hKk, kDA_self hDk⟩, (kw_same hPk ht).2⟩) (fun q h => absurd h List.not_mem_nil) dX10_suspect_48
      · skip
        have hlti4 : i4 < (cs_n zc 3) := (Nat.lt_or_ge i4 (cs_n zc 3)).elim id (fun q => absurd (nI_le q (by omega)) c1)
        refine lv_aload_n hx hb dX10_suspect_12 rfl (lv_at hl 2 rfl) ?_
        refine va_get (D := (dC, dI)) (ci := 10) (v := .ref (cs_X zc 0 9)) (C := RX10) (T := TX10) (N := 13) hx hb hts hiX10 hown hK hP 0 rfl rfl 4 (by decide) (hts (.fieldLink RX10 38 "TributePitches" "parcels" "[LTributePitches$Parcel;") (List.mem_of_getElem? (i := 2) rfl)) (fun _ h9 => h9) rfl dX10_suspect_13 ?_
        refine lv_iload_n hx hb dX10_suspect_16 rfl (lv_at hl 0 rfl) ?_
        refine va_aldq hx hb hK hP 1 4 rfl rfl (vp_in_nI (by omega) (by omega)) dX10_suspect_17 ?_
        refine W.eq (g2 := F0 m 18 ls [.ref (cs_X zc 4 i4)]) (by rw [nI_clamp (by omega), rfN_at hlti4]; rfl) ?_
        have hks : kAll (cF cA zc) [(0, 0), (0, 9), (4, i4), (1, cs_N zc 4 i4), (0, 1), (0, 3)] [cTP zc, cR9 cA zc, cPa zc i4, cPi zc (cs_N zc 4 i4), cLo zc, cA3 cA zc] := ⟨(kF_tp (cA := cA) (z := zc)), (kF_r9 (cA := cA) (z := zc)), (kF_pa (z := zc) hlti4), (kF_pi (z := zc) (j := cs_N zc 4 i4) (hpk i4 hlti4)), (kF_lo (cA := cA) (z := zc)), (kF_a3 (cA := cA) (z := zc)), trivial⟩
        have hP : va_P (dC, dI) vwCl [cTP zc, cR9 cA zc, cPa zc i4, cPi zc (cs_N zc 4 i4), cLo zc, cA3 cA zc] s.heap := kAll_P hPk hks
        have hD : va_D (va_A [cTP zc, cR9 cA zc, cPa zc i4, cPi zc (cs_N zc 4 i4), cLo zc, cA3 cA zc] s.heap.size) [cTP zc, cR9 cA zc, cPa zc i4, cPi zc (cs_N zc 4 i4), cLo zc, cA3 cA zc] := (kAll_D hDk hks (by simp)).self
        have hA : ∀ q : Nat, s.heap.size ≤ q → va_A [cTP zc, cR9 cA zc, cPa zc i4, cPi zc (cs_N zc 4 i4), cLo zc, cA3 cA zc] s.heap.size q := fun q h => Or.inr h
        have hS : va_S (va_A [cTP zc, cR9 cA zc, cPa zc i4, cPi zc (cs_N zc 4 i4), cLo zc, cA3 cA zc] s.heap.size) s.heap s.heap [] := va_S.rf
        refine lv_aload_n hx hb dX10_suspect_18 rfl (lv_at hl 2 rfl) ?_
        refine va_get (D := (dC, dI)) (ci := 10) (v := .ref (cs_X zc 0 1)) (C := RX10) (T := TX10) (N := 13) hx hb hts hiX10 hown hK hP 0 rfl rfl 0 (by decide) (hts (.fieldLink RX10 12 "TributePitches" "lode" "LTributePitches$Lode;") (List.mem_of_getElem? (i := 3) rfl)) (fun _ h9 => h9) rfl dX10_suspect_19 ?_
        have hPc := hP.sub (ws' := [cPa zc i4, cPi zc (cs_N zc 4 i4), cLo zc, cA3 cA zc]) [2, 3, 4, 5] rfl
        have hDc := hD.sub (ws' := [cPa zc i4, cPi zc (cs_N zc 4 i4), cLo zc, cA3 cA zc]) [2, 3, 4, 5] (by decide) rfl
        have hKc := hK.sub (tys' := [(cA 0, .int)]) [0] rfl
        refine vp_callSi (va_Run.run (va_runV (As := [.ref (cs_X zc 0 1)]) (rest := []) ⟨hx, hb, hml, hown, hts⟩ (s_isSuspect l dC dI (cA 0) _ (cs_X zc 4 i4) (cs_X zc 1 (cs_N zc 4 i4)) (cs_X zc 0 1) (cs_X zc 0 3) (.int (nI (cs_N zc 4 i4))) (.int (cs_I zc 15 (cs_N zc 4 i4))) (.int (cs_I zc 16 (cs_N zc 4 i4))) (va_rf (opN (cs_N zc 0 (cs_N zc 4 i4)) (cs_X zc 3))) (cs_I zc 11 (cs_N zc 4 i4)) (cs_I zc 12 (cs_N zc 4 i4)) (cs_I zc 13 (cs_N zc 4 i4)) (cs_I zc 14 (cs_N zc 4 i4)) (rXa zc (cs_N zc 4 i4)) (rWa zc (cs_N zc 4 i4)) (rYa zc (cs_N zc 4 i4)) (rHa zc (cs_N zc 4 i4)) (cs_I zc 1) (.ref (cs_X zc 0 2)) (.ref (cs_X zc 0 4)) (.ref (cs_X zc 0 5)) (.int (cs_i zc 0)) (cs_I zc 40 i4) (rectF hI (hpk i4 hlti4)).1 (rectF hI (hpk i4 hlti4)).2.1 (rectF hI (hpk i4 hlti4)).2.2.1 (rectF hI (hpk i4 hlti4)).2.2.2.1 (rectF hI (hpk i4 hlti4)).2.2.2.2.1 (rectF hI (hpk i4 hlti4)).2.2.2.2.2) (cwV 1 hts gX10_suspect_X5_isSuspect rfl rfl rfl (by decide +kernel) ⟨Nat.le_of_ble_eq_true rfl, Nat.le_of_ble_eq_true rfl⟩) (pw_preV (va_recv hKc hPc (ci := 5) (q0 := 0) rfl rfl) hPc hKc hDc hN) rfl rfl hl.1 rfl (lv_room (Nat.le_of_ble_eq_true rfl)) dX10_suspect_22 ⟨Nat.le_of_ble_eq_true rfl, Nat.le_of_ble_eq_true rfl⟩)) (fun r2 hr2 => ?_)
        have hr2 : r2 = if pmax (cs_I zc 1) (rXa zc (cs_N zc 4 i4)) (rWa zc (cs_N zc 4 i4)) (rYa zc (cs_N zc 4 i4)) ((rHa zc (cs_N zc 4 i4)) + 1) < (cs_I zc 40 i4) then 1 else 0 := hr2
        have hr2 : r2 = if psus zc i4 = true then 1 else 0 := by rw [hr2]; simp [psus]
        refine lv_if_ne (tgt := 31) hx hb dX10_suspect_25 (by decide) (fun c3 => ?_) (fun c3 => ?_)
        · skip
          have c3 := (fa_bool_prop hr2).2.mp c3
          refine lv_iload_n hx hb dX10_suspect_31 rfl (lv_at hl 1 rfl) ?_
          refine lv_iload_n hx hb dX10_suspect_32 rfl (lv_at hl 3 rfl) ?_
          refine lv_icmp_ne (tgt := 38) hx hb dX10_suspect_33 (by decide) (fun c4 => ?_) (fun c4 => ?_)
          · skip
            refine lv_iinc (v := nI (fa_cnt (psus zc) i4 + 1)) (lv' := [(2, .int (nI (fa_cnt (psus zc) i4 + 1))), (3, .int (nI i4)), (0, .ref (cs_X zc 0 0)), (1, .int ix)]) hx hb dX10_suspect_38 hl (k := 1) rfl (nI_1 _) (by decide) rfl (fun ls hl => ?_)
            refine lv_iinc (v := nI (i4 + 1)) (lv' := [(3, .int (nI (i4 + 1))), (2, .int (nI (fa_cnt (psus zc) i4 + 1))), (0, .ref (cs_X zc 0 0)), (1, .int ix)]) hx hb dX10_suspect_41 hl (k := 1) rfl (nI_1 i4) (by decide) rfl (fun ls hl => ?_)
            refine lv_goto (tgt := 4) hx hb dX10_suspect_44 (by decide) ?_
            have e9 : fa_cnt (psus zc) (i4 + 1) = fa_cnt (psus zc) i4 + 1 := fa_cnt_yes c3
            rw [← e9] at hl
            have hl : lv_has ls 4 [(3, .int (nI (i4 + 1))), (2, .int (nI (fa_cnt (psus zc) (i4 + 1)))), (0, .ref (cs_X zc 0 0)), (1, .int ix)] := hl
            exact ihi4 (i4 + 1)  ls (by omega) (by omega) (fun q hq hs => (Nat.lt_or_ge q i4).elim (fun z => hall q z hs) (fun z => by have e8 : q = i4 := (by omega); rw [e8] at hs ⊢; exact fun z => c4 z.symm)) (lv_sub hl [0, 1, 2, 3] rfl)
          · skip
            refine lv_iload_n hx hb dX10_suspect_36 rfl (lv_at hl 0 rfl) ?_
            subst hQ
            exact W.iret (v := nI i4) hx hb hr (fun t ht hW => ⟨⟨nI i4, zc, rfl, ⟨⟨hI, rfl⟩, (Or.inr ⟨i4, hlti4, c3, c4, rfl, rfl⟩)⟩, (by rw [ht]; exact hPk), va_K.moved hW.alike hKk, kDA_self hDk⟩, (kw_same hPk ht).2⟩) (fun q h => absurd h List.not_mem_nil) dX10_suspect_37
        · skip
          have c3 := (fa_bool_prop hr2).1.mp c3
          refine lv_goto (tgt := 41) hx hb dX10_suspect_28 (by decide) ?_
          refine lv_iinc (v := nI (i4 + 1)) (lv' := [(3, .int (nI (i4 + 1))), (2, .int (nI (fa_cnt (psus zc) i4))), (0, .ref (cs_X zc 0 0)), (1, .int ix)]) hx hb dX10_suspect_41 hl (k := 0) rfl (nI_1 i4) (by decide) rfl (fun ls hl => ?_)
          refine lv_goto (tgt := 4) hx hb dX10_suspect_44 (by decide) ?_
          have e9 : fa_cnt (psus zc) (i4 + 1) = fa_cnt (psus zc) i4 := fa_cnt_no (by simpa using c3)
          rw [← e9] at hl
          have hl : lv_has ls 4 [(3, .int (nI (i4 + 1))), (2, .int (nI (fa_cnt (psus zc) (i4 + 1)))), (0, .ref (cs_X zc 0 0)), (1, .int ix)] := hl
          exact ihi4 (i4 + 1)  ls (by omega) (by omega) (fun q hq hs => (Nat.lt_or_ge q i4).elim (fun z => hall q z hs) (fun z => by have e8 : q = i4 := (by omega); rw [e8] at hs ⊢; exact absurd hs c3)) (lv_sub hl [0, 1, 2, 3] rfl)
  exact loop4 ((cs_n zc 3) + 1 - 0) 0  ls (by omega) (by omega) (fun q hq => absurd hq (Nat.not_lt_zero q)) (lv_sub hl [0, 1, 2, 3] rfl)
def pC_skill (zc : CS) (g : Int32) (wh : Int32) (r : Int64) (u : CS) : Prop :=
  ((∀ j, j < cs_n zc 1 → g ≠ nI j) ∧ r = ((-9223372036854775808)) ∧ u = zc) ∨
  (∃ jg : Nat, g = nI jg ∧ (jg < cs_n zc 1) ∧ (0 ≤ wh ∧ wh ≤ 1) ∧ ∃ r6 : Int64, (r6 = (gpr (skU zc jg (cs_n zc 2)) (skD zc jg (cs_n zc 2)) 128).1) ∧ (¬ r6 = 0) ∧ (¬ wh = 0) ∧ r = ((skD zc jg (cs_n zc 2)) / r6) ∧ u = zc) ∨
  (∃ jg : Nat, g = nI jg ∧ (jg < cs_n zc 1) ∧ (0 ≤ wh ∧ wh ≤ 1) ∧ ∃ r6 : Int64, (r6 = (gpr (skU zc jg (cs_n zc 2)) (skD zc jg (cs_n zc 2)) 128).1) ∧ (¬ r6 = 0) ∧ (wh = 0) ∧ r = ((skU zc jg (cs_n zc 2)) / r6) ∧ u = zc) ∨
  (∃ jg : Nat, g = nI jg ∧ (jg < cs_n zc 1) ∧ (0 ≤ wh ∧ wh ≤ 1) ∧ ∃ r6 : Int64, (r6 = (gpr (skU zc jg (cs_n zc 2)) (skD zc jg (cs_n zc 2)) 128).1) ∧ (r6 = 0) ∧ (¬ wh = 0) ∧ r = (1) ∧ u = zc) ∨
  (∃ jg : Nat, g = nI jg ∧ (jg < cs_n zc 1) ∧ (0 ≤ wh ∧ wh ≤ 1) ∧ ∃ r6 : Int64, (r6 = (gpr (skU zc jg (cs_n zc 2)) (skD zc jg (cs_n zc 2)) 128).1) ∧ (r6 = 0) ∧ (wh = 0) ∧ r = (0) ∧ u = zc) ∨
  (∃ jg : Nat, g = nI jg ∧ (jg < cs_n zc 1) ∧ (¬ (0 ≤ wh ∧ wh ≤ 1)) ∧ r = ((-9223372036854775808)) ∧ u = zc)
set_option maxHeartbeats 4000000 in
set_option maxRecDepth 100000 in
theorem K_skill (l : Launch) (dC : Nat → ClassId) (dI : Nat → Nat → Nat) (cA : Nat → ClassId) (sz : Nat) (zc : CS) (g : Int32) (wh : Int32) (hI : invC zc) : Met l yX10_skill wsX10_skill ({ frames := 3, cells := 0, slots := 0, locals := 90 }) (kw (dC, dI) (ctys cA) (cF cA zc) sz [.ref (cs_X zc 0 0), .int g, .int wh]) (kQl (dC, dI) (ctys cA) (cF cA zc) sz (cF cA) (fun r u => (invC u ∧ cs_X u 0 0 = cs_X zc 0 0) ∧ pC_skill zc g wh r u)) 0 0 (kA (cF cA zc) sz) := by
  refine kw_met (cc := cX10_skill) (maxL := 12) (ret := (some .long)) (by decide) rfl (Nat.le_of_ble_eq_true rfl) ?_
  intro p e s m below meth c0 hx hb hr hml hown hlocks hnm hts hPk hKk hDk hN hsz ls hl
  subst hsz
  have hK : va_K (dC, dI) vwCl [(cA 0, .int), (cA 1, .object RX6), (cA 2, .object RX2), (cA 3, .object RX8), (cA 4, .object RX5), (cA 5, .object RX7)] s := hKk
  obtain ⟨⟨hn0, hn1, hn2, hn3, hn4, hn5⟩, hpi, hgk, htk, hpk, hsh⟩ := id hI
  have hl : lv_has ls 12 [(0, .ref (cs_X zc 0 0)), (1, .int g), (2, .int wh)] := hl
  have hiX10 : ∀ w ∈ wsX100, w ∈ wsX10_skill := fun _ h => List.mem_cons_of_mem _ (List.mem_append_left _ (List.mem_append_right _ (h)))
  have hiX8 : ∀ w ∈ wsX80, w ∈ wsX10_skill := fun _ h => List.mem_cons_of_mem _ (List.mem_append_right _ (h))
  generalize hQ : MQ _ _ _ _ _ _ _ = Q
  rcases ixd g (cs_n zc 1) with hnojg | ⟨jg, hjg, rfl⟩
  · skip
    have hks : kAll (cF cA zc) [(0, 0), (0, 7)] [cTP zc, cR7 cA zc] := ⟨(kF_tp (cA := cA) (z := zc)), (kF_r7 (cA := cA) (z := zc)), trivial⟩
    have hP : va_P (dC, dI) vwCl [cTP zc, cR7 cA zc] s.heap := kAll_P hPk hks
    have hD : va_D (va_A [cTP zc, cR7 cA zc] s.heap.size) [cTP zc, cR7 cA zc] := (kAll_D hDk hks (by simp)).self
    have hA : ∀ q : Nat, s.heap.size ≤ q → va_A [cTP zc, cR7 cA zc] s.heap.size q := fun q h => Or.inr h
    have hS : va_S (va_A [cTP zc, cR7 cA zc] s.heap.size) s.heap s.heap [] := va_S.rf
    refine lv_aload_n hx hb dX10_skill_0 rfl (lv_at hl 0 rfl) ?_
    refine lv_iload_n hx hb dX10_skill_1 rfl (lv_at hl 1 rfl) ?_
    have hPc := hP.sub (ws' := [cTP zc]) [0] rfl
    have hDc := hD.sub (ws' := [cTP zc]) [0] (by decide) rfl
    have hKc := hK.sub (tys' := []) [] rfl
    refine va_csq (va_Run.run (va_runV (As := [.int g]) (rest := []) ⟨hx, hb, hml, hown, hts⟩ (s_gangAt_no l dC dI  _ (cs_X zc 0 0) (.ref (cs_X zc 0 1)) (.ref (cs_X zc 0 6)) (.ref (cs_X zc 0 7)) (.ref (cs_X zc 0 8)) (.ref (cs_X zc 0 9)) (.ref (cs_X zc 0 10)) (.ref (cs_X zc 0 11)) (.int (nI (cs_n zc 0))) (.int (nI (cs_n zc 2))) (.int (nI (cs_n zc 3))) (va_rf (opN (cs_n zc 4) (fun _ => cs_X zc 5 0))) (.int (cs_i zc 2)) g (cs_n zc 1) (by omega) hnojg) (cwV 1 hts gX10_skill_X10_gangAt rfl rfl rfl (by decide +kernel) ⟨Nat.le_of_ble_eq_true rfl, Nat.le_of_ble_eq_true rfl⟩) (pw_preV (va_recv hKc hPc (ci := 10) (q0 := 0) rfl rfl) hPc hKc hDc hN) rfl rfl hl.1 rfl (lv_room (Nat.le_of_ble_eq_true rfl)) dX10_skill_2 ⟨Nat.le_of_ble_eq_true rfl, Nat.le_of_ble_eq_true rfl⟩)) (fun r1 hr1 => ?_)
    have hr1 : r1 = none := hr1
    subst hr1
    refine W.eq (g2 := F0 m 5 ls [.null]) rfl ?_
    refine lv_astore_nN (lv' := [(3, .null), (0, .ref (cs_X zc 0 0)), (1, .int g), (2, .int wh)]) hx hb dX10_skill_5 rfl hl (by decide) rfl (fun ls hl => ?_)
    refine lv_aload_nN hx hb dX10_skill_6 rfl (lv_at hl 0 rfl) ?_
    refine lv_ifnullN (tgt := 19) hx hb dX10_skill_7 (by decide) ?_
    refine lv_ldc2 (v := (-9223372036854775808)) hx hb hown (hts (.constantLong RX10 137 (-9223372036854775808)) (List.mem_of_getElem? (i := 1) rfl)) dX10_skill_19 ?_
    subst hQ
    exact W.lret (v := (-9223372036854775808)) hx hb hr (fun t ht hW => ⟨⟨(-9223372036854775808), zc, rfl, ⟨⟨hI, rfl⟩, (Or.inl ⟨hnojg, rfl, rfl⟩)⟩, (by rw [ht]; exact hPk), va_K.moved hW.alike hKk, kDA_self hDk⟩, (kw_same hPk ht).2⟩) (fun q h => absurd h List.not_mem_nil) dX10_skill_22
  · skip
    have hks : kAll (cF cA zc) [(0, 0), (0, 7), (0, 8)] [cTP zc, cR7 cA zc, cR8 cA zc] := ⟨(kF_tp (cA := cA) (z := zc)), (kF_r7 (cA := cA) (z := zc)), (kF_r8 (cA := cA) (z := zc)), trivial⟩
    have hP : va_P (dC, dI) vwCl [cTP zc, cR7 cA zc, cR8 cA zc] s.heap := kAll_P hPk hks
    have hD : va_D (va_A [cTP zc, cR7 cA zc, cR8 cA zc] s.heap.size) [cTP zc, cR7 cA zc, cR8 cA zc] := (kAll_D hDk hks (by simp)).self
    have hA : ∀ q : Nat, s.heap.size ≤ q → va_A [cTP zc, cR7 cA zc, cR8 cA zc] s.heap.size q := fun q h => Or.inr h
    have hS : va_S (va_A [cTP zc, cR7 cA zc, cR8 cA zc] s.heap.size) s.heap s.heap [] := va_S.rf
    refine lv_aload_n hx hb dX10_skill_0 rfl (lv_at hl 0 rfl) ?_
    refine lv_iload_n hx hb dX10_skill_1 rfl (lv_at hl 1 rfl) ?_
    have hPc := hP.sub (ws' := [cTP zc, cR7 cA zc]) [0, 1] rfl
    have hDc := hD.sub (ws' := [cTP zc, cR7 cA zc]) [0, 1] (by decide) rfl
    have hKc := hK.sub (tys' := [(cA 2, .object RX2)]) [2] rfl
    refine va_csq (va_Run.run (va_runV (As := [.int (nI jg)]) (rest := []) ⟨hx, hb, hml, hown, hts⟩ (s_gangAt_yes l dC dI (cA 2) _ (cs_X zc 0 0) (.ref (cs_X zc 0 1)) (.ref (cs_X zc 0 6)) (.ref (cs_X zc 0 8)) (.ref (cs_X zc 0 9)) (.ref (cs_X zc 0 10)) (.ref (cs_X zc 0 11)) (.int (nI (cs_n zc 0))) (.int (nI (cs_n zc 2))) (.int (nI (cs_n zc 3))) (va_rf (opN (cs_n zc 4) (fun _ => cs_X zc 5 0))) (.int (cs_i zc 2)) (cs_X zc 0 7) jg (cs_n zc 1) (cs_X zc 2 jg) (rfN (cs_n zc 1) (cs_X zc 2)) hjg (by omega) (rfN_at hjg)) (cwV 1 hts gX10_skill_X10_gangAt rfl rfl rfl (by decide +kernel) ⟨Nat.le_of_ble_eq_true rfl, Nat.le_of_ble_eq_true rfl⟩) (pw_preV (va_recv hKc hPc (ci := 10) (q0 := 0) rfl rfl) hPc hKc hDc hN) rfl rfl hl.1 rfl (lv_room (Nat.le_of_ble_eq_true rfl)) dX10_skill_2 ⟨Nat.le_of_ble_eq_true rfl, Nat.le_of_ble_eq_true rfl⟩)) (fun r2 hr2 => ?_)
    have hr2 : r2 = some (cs_X zc 2 jg) := hr2
    subst hr2
    refine W.eq (g2 := F0 m 5 ls [.ref (cs_X zc 2 jg)]) rfl ?_
    refine lv_astore_n (lv' := [(3, .ref (cs_X zc 2 jg)), (0, .ref (cs_X zc 0 0)), (1, .int (nI jg)), (2, .int wh)]) hx hb dX10_skill_5 rfl hl (by decide) rfl (fun ls hl => ?_)
    refine lv_aload_n hx hb dX10_skill_6 rfl (lv_at hl 0 rfl) ?_
    refine lv_ifnull hx hb dX10_skill_7 ?_
    refine lv_iload_n hx hb dX10_skill_10 rfl (lv_at hl 3 rfl) ?_
    refine lv_iconst (v := 0) hx hb dX10_skill_11 (by decide) ?_
    refine lv_iconst (v := 1) hx hb dX10_skill_12 (by decide) ?_
    refine vp_callSi (va_Run.run (va_runS (As := [.int wh, .int 0, .int 1]) (rest := []) ⟨hx, hb, hml, hown, hts⟩ (c_X10_isWithin l wh 0 1 ) (va_cwS 3 hts gX10_skill_X10_isWithin rfl rfl rfl (by decide +kernel) ⟨Nat.le_of_ble_eq_true rfl, Nat.le_of_ble_eq_true rfl⟩) (p0_preS hN) rfl rfl hl.1 rfl (lv_room (Nat.le_of_ble_eq_true rfl)) dX10_skill_13 ⟨Nat.le_of_ble_eq_true rfl, Nat.le_of_ble_eq_true rfl⟩)) (fun r3 hr3 => ?_)
    have hr3 : r3 = if 0 ≤ wh ∧ wh ≤ 1 then 1 else 0 := hr3
    refine lv_if_ne (tgt := 23) hx hb dX10_skill_16 (by decide) (fun c4 => ?_) (fun c4 => ?_)
    · skip
      have c4 := (fa_bool_prop hr3).2.mp c4
      refine lv_lconst (v := 0) hx hb dX10_skill_23 (by decide) ?_
      refine lv_lstore (lv' := [(4, .long 0), (3, .ref (cs_X zc 2 jg)), (0, .ref (cs_X zc 0 0)), (1, .int (nI jg)), (2, .int wh)]) hx hb dX10_skill_24 hl (by decide) rfl (fun ls hl => ?_)
      refine lv_lconst (v := 0) hx hb dX10_skill_26 (by decide) ?_
      refine lv_lstore (lv' := [(6, .long 0), (4, .long 0), (3, .ref (cs_X zc 2 jg)), (0, .ref (cs_X zc 0 0)), (1, .int (nI jg)), (2, .int wh)]) hx hb dX10_skill_27 hl (by decide) rfl (fun ls hl => ?_)
      refine lv_iconst (v := 0) hx hb dX10_skill_29 (by decide) ?_
      refine lv_istore (lv' := [(8, .int 0), (6, .long 0), (4, .long 0), (3, .ref (cs_X zc 2 jg)), (0, .ref (cs_X zc 0 0)), (1, .int (nI jg)), (2, .int wh)]) hx hb dX10_skill_30 hl (by decide) rfl (fun ls hl => ?_)
      have loop32 : ∀ (ni32 i32 : Nat) (ls : Array Slot), i32 ≤ (cs_n zc 2) → (cs_n zc 2) + 1 ≤ i32 + ni32 → lv_has ls 12 [(8, .int (nI i32)), (6, .long (skD zc jg i32)), (4, .long (skU zc jg i32)), (3, .ref (cs_X zc 2 jg)), (0, .ref (cs_X zc 0 0)), (1, .int (nI jg)), (2, .int wh)] → W p l e ({ frames := 3, cells := 0, slots := 0, locals := 90 } : Room) s m ([.ref (cs_X zc 0 0), .int (nI jg), .int wh] : List Value).toArray below meth c0 s.heap [] 0 0 Q (F0 m 32 ls []) := by
        intro ni32
        induction ni32 with
        | zero =>
          intro i32  ls h1 h2
          exact absurd h2 (by omega)
        | succ ni32 ihi32 =>
          intro i32  ls hlei32 hni32  hl
          refine lv_iload hx hb dX10_skill_32 (lv_at hl 0 rfl) ?_
          refine lv_aload_n hx hb dX10_skill_34 rfl (lv_at hl 4 rfl) ?_
          refine va_get (D := (dC, dI)) (ci := 10) (v := .int (nI (cs_n zc 2))) (C := RX10) (T := TX10) (N := 13) hx hb hts hiX10 hown hK hP 0 rfl rfl 9 (by decide) (hts (.fieldLink RX10 197 "TributePitches" "takeCount" "I") (List.mem_of_getElem? (i := 2) rfl)) (fun _ h9 => h9) rfl dX10_skill_35 ?_
          refine lv_icmp_ge (tgt := 116) hx hb dX10_skill_38 (by decide) (fun c5 => ?_) (fun c5 => ?_)
          · skip
            have hei32 : (cs_n zc 2) = i32 := (by have q := (nI_leI (a := (cs_n zc 2)) (b := i32) (by omega) (by omega)).mp c5; omega)
            subst hei32
            refine lv_lload hx hb dX10_skill_116 (lv_at hl 2 rfl) ?_
            refine lv_lload hx hb dX10_skill_118 (lv_at hl 1 rfl) ?_
            refine vp_callSl (va_Run.run (va_runS (As := [.long (skU zc jg (cs_n zc 2)), .long (skD zc jg (cs_n zc 2))]) (rest := []) ⟨hx, hb, hml, hown, hts⟩ (s_commonDivisor l (skU zc jg (cs_n zc 2)) (skD zc jg (cs_n zc 2)) ) (va_cwS 2 hts gX10_skill_X10_commonDivisor rfl rfl rfl (by decide +kernel) ⟨Nat.le_of_ble_eq_true rfl, Nat.le_of_ble_eq_true rfl⟩) (p0_preS hN) rfl rfl hl.1 rfl (lv_room (Nat.le_of_ble_eq_true rfl)) dX10_skill_120 ⟨Nat.le_of_ble_eq_true rfl, Nat.le_of_ble_eq_true rfl⟩)) (fun r6 hr6 => ?_)
            have hr6 : r6 = (gpr (skU zc jg (cs_n zc 2)) (skD zc jg (cs_n zc 2)) 128).1 := hr6
            refine lv_lstore (lv' := [(8, .long r6), (6, .long (skD zc jg (cs_n zc 2))), (4, .long (skU zc jg (cs_n zc 2))), (3, .ref (cs_X zc 2 jg)), (0, .ref (cs_X zc 0 0)), (1, .int (nI jg)), (2, .int wh)]) hx hb dX10_skill_123 hl (by decide) rfl (fun ls hl => ?_)
            refine lv_lload hx hb dX10_skill_125 (lv_at hl 0 rfl) ?_
            refine lv_lconst (v := 0) hx hb dX10_skill_127 (by decide) ?_
            refine W.lcmp hx hb dX10_skill_128 ?_
            refine lv_if_ne (tgt := 142) hx hb dX10_skill_129 (by decide) (fun c7 => ?_) (fun c7 => ?_)
            · skip
              have c7 := fun h => c7 ((lg_cmp_eq _ _).mpr h)
              refine lv_iload_n hx hb dX10_skill_142 rfl (lv_at hl 6 rfl) ?_
              refine lv_if_ne (tgt := 154) hx hb dX10_skill_143 (by decide) (fun c8 => ?_) (fun c8 => ?_)
              · skip
                refine lv_lload hx hb dX10_skill_154 (lv_at hl 1 rfl) ?_
                refine lv_lload hx hb dX10_skill_156 (lv_at hl 0 rfl) ?_
                refine lv_ldiv hx hb dX10_skill_158 c7 ?_
                subst hQ
                exact W.lret (v := (skD zc jg (cs_n zc 2)) / r6) hx hb hr (fun t ht hW => ⟨⟨(skD zc jg (cs_n zc 2)) / r6, zc, rfl, ⟨⟨hI, rfl⟩, (Or.inr (Or.inl ⟨jg, rfl, hjg, c4, r6, hr6, c7, c8, rfl, rfl⟩))⟩, (by rw [ht]; exact hPk), va_K.moved hW.alike hKk, kDA_self hDk⟩, (kw_same hPk ht).2⟩) (fun q h => absurd h List.not_mem_nil) dX10_skill_159
              · skip
                refine lv_lload hx hb dX10_skill_146 (lv_at hl 2 rfl) ?_
                refine lv_lload hx hb dX10_skill_148 (lv_at hl 0 rfl) ?_
                refine lv_ldiv hx hb dX10_skill_150 c7 ?_
                refine lv_goto (tgt := 159) hx hb dX10_skill_151 (by decide) ?_
                subst hQ
                exact W.lret (v := (skU zc jg (cs_n zc 2)) / r6) hx hb hr (fun t ht hW => ⟨⟨(skU zc jg (cs_n zc 2)) / r6, zc, rfl, ⟨⟨hI, rfl⟩, (Or.inr (Or.inr (Or.inl ⟨jg, rfl, hjg, c4, r6, hr6, c7, c8, rfl, rfl⟩)))⟩, (by rw [ht]; exact hPk), va_K.moved hW.alike hKk, kDA_self hDk⟩, (kw_same hPk ht).2⟩) (fun q h => absurd h List.not_mem_nil) dX10_skill_159
            · skip
              have c7 := (lg_cmp_eq _ _).mp c7
              refine lv_iload_n hx hb dX10_skill_132 rfl (lv_at hl 6 rfl) ?_
              refine lv_if_ne (tgt := 140) hx hb dX10_skill_133 (by decide) (fun c9 => ?_) (fun c9 => ?_)
              · skip
                refine lv_lconst (v := 1) hx hb dX10_skill_140 (by decide) ?_
                subst hQ
                exact W.lret (v := 1) hx hb hr (fun t ht hW => ⟨⟨1, zc, rfl, ⟨⟨hI, rfl⟩, (Or.inr (Or.inr (Or.inr (Or.inl ⟨jg, rfl, hjg, c4, r6, hr6, c7, c9, rfl, rfl⟩))))⟩, (by rw [ht]; exact hPk), va_K.moved hW.alike hKk, kDA_self hDk⟩, (kw_same hPk ht).2⟩) (fun q h => absurd h List.not_mem_nil) dX10_skill_141
              · skip
                refine lv_lconst (v := 0) hx hb dX10_skill_136 (by decide) ?_
                refine lv_goto (tgt := 141) hx hb dX10_skill_137 (by decide) ?_
                subst hQ
                exact W.lret (v := 0) hx hb hr (fun t ht hW => ⟨⟨0, zc, rfl, ⟨⟨hI, rfl⟩, (Or.inr (Or.inr (Or.inr (Or.inr (Or.inl ⟨jg, rfl, hjg, c4, r6, hr6, c7, c9, rfl, rfl⟩)))))⟩, (by rw [ht]; exact hPk), va_K.moved hW.alike hKk, kDA_self hDk⟩, (kw_same hPk ht).2⟩) (fun q h => absurd h List.not_mem_nil) dX10_skill_141
          · skip
            have hlti32 : i32 < (cs_n zc 2) := (Nat.lt_or_ge i32 (cs_n zc 2)).elim id (fun q => absurd (nI_le q (by omega)) c5)
            refine lv_aload_n hx hb dX10_skill_41 rfl (lv_at hl 4 rfl) ?_
            refine va_get (D := (dC, dI)) (ci := 10) (v := .ref (cs_X zc 0 8)) (C := RX10) (T := TX10) (N := 13) hx hb hts hiX10 hown hK hP 0 rfl rfl 3 (by decide) (hts (.fieldLink RX10 32 "TributePitches" "takes" "[LTributePitches$Take;") (List.mem_of_getElem? (i := 3) rfl)) (fun _ h9 => h9) rfl dX10_skill_42 ?_
            refine lv_iload hx hb dX10_skill_45 (lv_at hl 0 rfl) ?_
            refine va_aldq hx hb hK hP 2 3 rfl rfl (vp_in_nI (by omega) (by omega)) dX10_skill_47 ?_
            refine W.eq (g2 := F0 m 48 ls [.ref (cs_X zc 3 i32)]) (by rw [nI_clamp (by omega), rfN_at hlti32]; rfl) ?_
            have hks : kAll (cF cA zc) [(0, 0), (0, 7), (0, 8), (3, i32)] [cTP zc, cR7 cA zc, cR8 cA zc, cTa zc i32] := ⟨(kF_tp (cA := cA) (z := zc)), (kF_r7 (cA := cA) (z := zc)), (kF_r8 (cA := cA) (z := zc)), (kF_ta (z := zc) hlti32), trivial⟩
            have hP : va_P (dC, dI) vwCl [cTP zc, cR7 cA zc, cR8 cA zc, cTa zc i32] s.heap := kAll_P hPk hks
            have hD : va_D (va_A [cTP zc, cR7 cA zc, cR8 cA zc, cTa zc i32] s.heap.size) [cTP zc, cR7 cA zc, cR8 cA zc, cTa zc i32] := (kAll_D hDk hks (by simp)).self
            have hA : ∀ q : Nat, s.heap.size ≤ q → va_A [cTP zc, cR7 cA zc, cR8 cA zc, cTa zc i32] s.heap.size q := fun q h => Or.inr h
            have hS : va_S (va_A [cTP zc, cR7 cA zc, cR8 cA zc, cTa zc i32] s.heap.size) s.heap s.heap [] := va_S.rf
            refine lv_astore (lv' := [(9, .ref (cs_X zc 3 i32)), (8, .int (nI i32)), (6, .long (skD zc jg i32)), (4, .long (skU zc jg i32)), (3, .ref (cs_X zc 2 jg)), (0, .ref (cs_X zc 0 0)), (1, .int (nI jg)), (2, .int wh)]) hx hb dX10_skill_48 hl (by decide) rfl (fun ls hl => ?_)
            refine lv_aload hx hb dX10_skill_50 (lv_at hl 0 rfl) ?_
            refine va_get (D := (dC, dI)) (ci := 8) (v := .ref (cs_X zc 2 (cs_N zc 2 i32))) (C := RX8) (T := TX8) (N := 12) hx hb hts hiX8 hown hK hP 3 rfl rfl 2 (by decide) (hts (.fieldLink RX10 265 "TributePitches$Take" "gang" "LTributePitches$Gang;") (List.mem_of_getElem? (i := 4) rfl)) (fun _ h9 => h9) rfl dX10_skill_52 ?_
            refine lv_aload_n hx hb dX10_skill_55 rfl (lv_at hl 4 rfl) ?_
            refine lv_acmp_ne (rx := (some (cs_X zc 2 (cs_N zc 2 i32)))) (ry := (some (cs_X zc 2 jg))) (tgt := 110) hx hb dX10_skill_56 (by decide) (fun c10 => ?_) (fun c10 => ?_)
            · skip
              have c10 : ¬ cs_N zc 2 i32 = jg := fun q => c10 (by rw [q])
              refine lv_iinc (v := nI (i32 + 1)) (lv' := [(8, .int (nI (i32 + 1))), (9, .ref (cs_X zc 3 i32)), (6, .long (skD zc jg i32)), (4, .long (skU zc jg i32)), (3, .ref (cs_X zc 2 jg)), (0, .ref (cs_X zc 0 0)), (1, .int (nI jg)), (2, .int wh)]) hx hb dX10_skill_110 hl (k := 1) rfl (nI_1 i32) (by decide) rfl (fun ls hl => ?_)
              refine lv_goto (tgt := 32) hx hb dX10_skill_113 (by decide) ?_
              have e4 : skU zc jg (i32 + 1) = skU zc jg i32 := by rw [skU]; simp [c10]
              have e6 : skD zc jg (i32 + 1) = skD zc jg i32 := by rw [skD]; simp [c10]
              rw [← e4, ← e6] at hl
              have hl : lv_has ls 12 [(8, .int (nI (i32 + 1))), (9, .ref (cs_X zc 3 i32)), (6, .long (skD zc jg (i32 + 1))), (4, .long (skU zc jg (i32 + 1))), (3, .ref (cs_X zc 2 jg)), (0, .ref (cs_X zc 0 0)), (1, .int (nI jg)), (2, .int wh)] := hl
              exact ihi32 (i32 + 1)  ls (by omega) (by omega)  (lv_sub hl [0, 2, 3, 4, 5, 6, 7] rfl)
            · skip
              have c10 : cs_N zc 2 i32 = jg := (hDk 2 _ 2 _ _ _ (kF_ga (cA := cA) (z := zc) (j := cs_N zc 2 i32) (htk i32 hlti32).1) (kF_ga (cA := cA) (z := zc) (j := jg) hjg) (Option.some.inj c10)).2
              refine lv_aload hx hb dX10_skill_59 (lv_at hl 0 rfl) ?_
              refine va_get (D := (dC, dI)) (ci := 8) (v := .int (cs_I zc 33 i32)) (C := RX8) (T := TX8) (N := 12) hx hb hts hiX8 hown hK hP 3 rfl rfl 11 (by decide) (hts (.fieldLink RX10 238 "TributePitches$Take" "settled" "Z") (List.mem_of_getElem? (i := 5) rfl)) (fun _ h9 => h9) rfl dX10_skill_61 ?_
              refine lv_if_ne (tgt := 70) hx hb dX10_skill_64 (by decide) (fun c11 => ?_) (fun c11 => ?_)
              · skip
                refine lv_aload hx hb dX10_skill_70 (lv_at hl 0 rfl) ?_
                refine va_get (D := (dC, dI)) (ci := 8) (v := .long (cs_L zc 1 i32)) (C := RX8) (T := TX8) (N := 12) hx hb hts hiX8 hown hK hP 3 rfl rfl 4 (by decide) (hts (.fieldLink RX10 203 "TributePitches$Take" "least" "J") (List.mem_of_getElem? (i := 6) rfl)) (fun _ h9 => h9) rfl dX10_skill_72 ?_
                refine lv_aload hx hb dX10_skill_75 (lv_at hl 0 rfl) ?_
                refine va_get (D := (dC, dI)) (ci := 8) (v := .long (cs_L zc 2 i32)) (C := RX8) (T := TX8) (N := 12) hx hb hts hiX8 hown hK hP 3 rfl rfl 5 (by decide) (hts (.fieldLink RX10 207 "TributePitches$Take" "greatest" "J") (List.mem_of_getElem? (i := 7) rfl)) (fun _ h9 => h9) rfl dX10_skill_77 ?_
                refine lv_ladd hx hb dX10_skill_80 ?_
                refine lv_lstore (lv' := [(10, .long ((cs_L zc 1 i32) + (cs_L zc 2 i32))), (9, .ref (cs_X zc 3 i32)), (8, .int (nI i32)), (6, .long (skD zc jg i32)), (4, .long (skU zc jg i32)), (3, .ref (cs_X zc 2 jg)), (0, .ref (cs_X zc 0 0)), (1, .int (nI jg)), (2, .int wh)]) hx hb dX10_skill_81 hl (by decide) rfl (fun ls hl => ?_)
                refine lv_lload hx hb dX10_skill_83 (lv_at hl 4 rfl) ?_
                refine lv_lload hx hb dX10_skill_85 (lv_at hl 0 rfl) ?_
                refine lv_ldc2 (v := 2) hx hb hown (hts (.constantLong RX10 278 (2)) (List.mem_of_getElem? (i := 8) rfl)) dX10_skill_87 ?_
                refine lv_aload hx hb dX10_skill_90 (lv_at hl 1 rfl) ?_
                refine va_get (D := (dC, dI)) (ci := 8) (v := .long (cs_L zc 3 i32)) (C := RX8) (T := TX8) (N := 12) hx hb hts hiX8 hown hK hP 3 rfl rfl 6 (by decide) (hts (.fieldLink RX10 249 "TributePitches$Take" "worths" "J") (List.mem_of_getElem? (i := 9) rfl)) (fun _ h9 => h9) rfl dX10_skill_92 ?_
                refine lv_lmul hx hb dX10_skill_95 ?_
                refine lv_lmul hx hb dX10_skill_96 ?_
                refine lv_ladd hx hb dX10_skill_97 ?_
                refine lv_lstore (lv' := [(4, .long ((skU zc jg i32) + (((cs_L zc 1 i32) + (cs_L zc 2 i32)) * (2 * (cs_L zc 3 i32))))), (10, .long ((cs_L zc 1 i32) + (cs_L zc 2 i32))), (9, .ref (cs_X zc 3 i32)), (8, .int (nI i32)), (6, .long (skD zc jg i32)), (3, .ref (cs_X zc 2 jg)), (0, .ref (cs_X zc 0 0)), (1, .int (nI jg)), (2, .int wh)]) hx hb dX10_skill_98 hl (by decide) rfl (fun ls hl => ?_)
                refine lv_lload hx hb dX10_skill_100 (lv_at hl 4 rfl) ?_
                refine lv_lload hx hb dX10_skill_102 (lv_at hl 1 rfl) ?_
                refine lv_lload hx hb dX10_skill_104 (lv_at hl 1 rfl) ?_
                refine lv_lmul hx hb dX10_skill_106 ?_
                refine lv_ladd hx hb dX10_skill_107 ?_
                refine lv_lstore (lv' := [(6, .long ((skD zc jg i32) + (((cs_L zc 1 i32) + (cs_L zc 2 i32)) * ((cs_L zc 1 i32) + (cs_L zc 2 i32))))), (4, .long ((skU zc jg i32) + (((cs_L zc 1 i32) + (cs_L zc 2 i32)) * (2 * (cs_L zc 3 i32))))), (10, .long ((cs_L zc 1 i32) + (cs_L zc 2 i32))), (9, .ref (cs_X zc 3 i32)), (8, .int (nI i32)), (3, .ref (cs_X zc 2 jg)), (0, .ref (cs_X zc 0 0)), (1, .int (nI jg)), (2, .int wh)]) hx hb dX10_skill_108 hl (by decide) rfl (fun ls hl => ?_)
                refine lv_iinc (v := nI (i32 + 1)) (lv' := [(8, .int (nI (i32 + 1))), (6, .long ((skD zc jg i32) + (((cs_L zc 1 i32) + (cs_L zc 2 i32)) * ((cs_L zc 1 i32) + (cs_L zc 2 i32))))), (4, .long ((skU zc jg i32) + (((cs_L zc 1 i32) + (cs_L zc 2 i32)) * (2 * (cs_L zc 3 i32))))), (10, .long ((cs_L zc 1 i32) + (cs_L zc 2 i32))), (9, .ref (cs_X zc 3 i32)), (3, .ref (cs_X zc 2 jg)), (0, .ref (cs_X zc 0 0)), (1, .int (nI jg)), (2, .int wh)]) hx hb dX10_skill_110 hl (k := 4) rfl (nI_1 i32) (by decide) rfl (fun ls hl => ?_)
                refine lv_goto (tgt := 32) hx hb dX10_skill_113 (by decide) ?_
                have e4 : skU zc jg (i32 + 1) = (skU zc jg i32) + (((cs_L zc 1 i32) + (cs_L zc 2 i32)) * (2 * (cs_L zc 3 i32))) := by rw [skU]; simp [c10, c11]
                have e6 : skD zc jg (i32 + 1) = (skD zc jg i32) + (((cs_L zc 1 i32) + (cs_L zc 2 i32)) * ((cs_L zc 1 i32) + (cs_L zc 2 i32))) := by rw [skD]; simp [c10, c11]
                rw [← e4, ← e6] at hl
                have hl : lv_has ls 12 [(8, .int (nI (i32 + 1))), (6, .long (skD zc jg (i32 + 1))), (4, .long (skU zc jg (i32 + 1))), (10, .long ((cs_L zc 1 i32) + (cs_L zc 2 i32))), (9, .ref (cs_X zc 3 i32)), (3, .ref (cs_X zc 2 jg)), (0, .ref (cs_X zc 0 0)), (1, .int (nI jg)), (2, .int wh)] := hl
                exact ihi32 (i32 + 1)  ls (by omega) (by omega)  (lv_sub hl [0, 1, 2, 5, 6, 7, 8] rfl)
              · skip
                refine lv_goto (tgt := 110) hx hb dX10_skill_67 (by decide) ?_
                refine lv_iinc (v := nI (i32 + 1)) (lv' := [(8, .int (nI (i32 + 1))), (9, .ref (cs_X zc 3 i32)), (6, .long (skD zc jg i32)), (4, .long (skU zc jg i32)), (3, .ref (cs_X zc 2 jg)), (0, .ref (cs_X zc 0 0)), (1, .int (nI jg)), (2, .int wh)]) hx hb dX10_skill_110 hl (k := 1) rfl (nI_1 i32) (by decide) rfl (fun ls hl => ?_)
                refine lv_goto (tgt := 32) hx hb dX10_skill_113 (by decide) ?_
                have e4 : skU zc jg (i32 + 1) = skU zc jg i32 := by rw [skU]; simp [c10, c11]
                have e6 : skD zc jg (i32 + 1) = skD zc jg i32 := by rw [skD]; simp [c10, c11]
                rw [← e4, ← e6] at hl
                have hl : lv_has ls 12 [(8, .int (nI (i32 + 1))), (9, .ref (cs_X zc 3 i32)), (6, .long (skD zc jg (i32 + 1))), (4, .long (skU zc jg (i32 + 1))), (3, .ref (cs_X zc 2 jg)), (0, .ref (cs_X zc 0 0)), (1, .int (nI jg)), (2, .int wh)] := hl
                exact ihi32 (i32 + 1)  ls (by omega) (by omega)  (lv_sub hl [0, 2, 3, 4, 5, 6, 7] rfl)
      exact loop32 ((cs_n zc 2) + 1 - 0) 0  ls (by omega) (by omega)  (lv_sub hl [0, 1, 2, 3, 4, 5, 6] rfl)
    · skip
      have c4 := (fa_bool_prop hr3).1.mp c4
      refine lv_ldc2 (v := (-9223372036854775808)) hx hb hown (hts (.constantLong RX10 137 (-9223372036854775808)) (List.mem_of_getElem? (i := 1) rfl)) dX10_skill_19 ?_
      subst hQ
      exact W.lret (v := (-9223372036854775808)) hx hb hr (fun t ht hW => ⟨⟨(-9223372036854775808), zc, rfl, ⟨⟨hI, rfl⟩, (Or.inr (Or.inr (Or.inr (Or.inr (Or.inr ⟨jg, rfl, hjg, c4, rfl, rfl⟩)))))⟩, (by rw [ht]; exact hPk), va_K.moved hW.alike hKk, kDA_self hDk⟩, (kw_same hPk ht).2⟩) (fun q h => absurd h List.not_mem_nil) dX10_skill_22
def rT (z : RS2) (k : Nat) : Nat := (rs_I z 35 k).toNatClampNeg
def rP (z : RS2) (k : Nat) : Nat := (rs_I z 26 (rT z k)).toNatClampNeg
theorem rtk {z : RS2} {k : Nat} (hI : invR z) (hk : k < rs_n z 3) : rT z k < rs_n z 2 ∧ rs_I z 35 k = nI (rT z k) ∧ rP z k < rs_n z 0 ∧ rs_I z 26 (rT z k) = nI (rP z k) := by
  obtain ⟨⟨h0, h1, h2, h3⟩, -, -, -, -, htk, hpk⟩ := hI
  obtain ⟨t, ht, e⟩ := hpk k hk
  have q1 : rT z k = t := by unfold rT; rw [e, nI_clamp (by omega)]
  obtain ⟨p, hp, e2⟩ := (htk t ht).2
  have q2 : rP z k = p := by unfold rP; rw [q1, e2, nI_clamp (by omega)]
  rw [q1, q2]
  exact ⟨ht, e, hp, e2⟩
def rsus (z : RS2) (k : Nat) : Bool := decide (smax (onB (rs_I z 12) (rs_I z 14) (rs_I z 13) (rs_I z 15) (rP z k)) (rs_I z 3) 48 < rs_I z 37 k)
def cpf (g : Nat → Int32) (b : Nat) (f : Nat → Int32) : Nat → Nat → Int32
  | 0 => f
  | i + 1 => upd (cpf g b f i) i (g (b + i))
def cpt (h : Nat → Int32) (b : Nat) (f : Nat → Int32) : Nat → Nat → Int32
  | 0 => f
  | i + 1 => upd (cpt h b f i) (b + i) (h i)

def pR_suspects (zr : RS2) (r : Int32) (u : RS2) : Prop :=
  (r = (nI (fa_cnt (rsus zr) (rs_n zr 3))) ∧ u = zr)
set_option maxHeartbeats 4000000 in
set_option maxRecDepth 100000 in
theorem M_suspects (l : Launch) (dC : Nat → ClassId) (dI : Nat → Nat → Nat) (cI cJ cZ : ClassId) (sz : Nat) (qm : Nat) (ad : Nat → Nat) (zr : RS2) (hI : invR zr) : Met l yX11_suspects wsX11_suspects ({ frames := 3, cells := 0, slots := 0, locals := 90 }) (pw (dC, dI) [(cI, .int), (cJ, .long), (cZ, .boolean)] (rW qm cI cJ cZ ad zr) sz [.ref qm]) (va_Qi (fun r (u : RS2) => invR u ∧ pR_suspects zr r u) (fun u t => bw (dC, dI) [(cI, .int), (cJ, .long), (cZ, .boolean)] (va_A (rW qm cI cJ cZ ad zr) sz) (rW qm cI cJ cZ ad u) t) (va_A (rW qm cI cJ cZ ad zr) sz)) 0 0 (va_A (rW qm cI cJ cZ ad zr) sz) := by
  refine pw_met (cc := cX11_suspects) (maxL := 3) (ret := (some .int)) (by decide) rfl (Nat.le_of_ble_eq_true rfl) ?_
  intro p e s m below meth c0 hx hb hr hml hown hlocks hnm hts hP0 hK hD0 hN hsz hA hS ls hl
  subst hsz
  have hP : va_P (dC, dI) vwCl [rcO qm ad zr, rcI cI ad zr 2 48, rcI cI ad zr 3 48, rcI cI ad zr 4 48, rcI cI ad zr 5 48, rcI cI ad zr 7 4, rcI cI ad zr 8 4, rcI cI ad zr 9 192, rcI cI ad zr 10 48, rcI cI ad zr 12 12, rcI cI ad zr 13 12, rcI cI ad zr 14 12, rcI cI ad zr 15 12, rcI cI ad zr 16 12, rcI cI ad zr 18 8, rcJ cJ ad zr 19 8, rcI cI ad zr 25 40, rcI cI ad zr 26 40, rcI cI ad zr 27 40, rcI cZ ad zr 28 40, rcJ cJ ad zr 29 40, rcJ cJ ad zr 30 40, rcJ cJ ad zr 31 40, rcJ cJ ad zr 32 40, rcJ cJ ad zr 33 40, rcI cI ad zr 35 80, rcI cI ad zr 36 80, rcI cI ad zr 37 80] s.heap := hP0
  have hD : va_D (va_A (rW qm cI cJ cZ ad zr) s.heap.size) [rcO qm ad zr, rcI cI ad zr 2 48, rcI cI ad zr 3 48, rcI cI ad zr 4 48, rcI cI ad zr 5 48, rcI cI ad zr 7 4, rcI cI ad zr 8 4, rcI cI ad zr 9 192, rcI cI ad zr 10 48, rcI cI ad zr 12 12, rcI cI ad zr 13 12, rcI cI ad zr 14 12, rcI cI ad zr 15 12, rcI cI ad zr 16 12, rcI cI ad zr 18 8, rcJ cJ ad zr 19 8, rcI cI ad zr 25 40, rcI cI ad zr 26 40, rcI cI ad zr 27 40, rcI cZ ad zr 28 40, rcJ cJ ad zr 29 40, rcJ cJ ad zr 30 40, rcJ cJ ad zr 31 40, rcJ cJ ad zr 32 40, rcJ cJ ad zr 33 40, rcI cI ad zr 35 80, rcI cI ad zr 36 80, rcI cI ad zr 37 80] := hD0
  obtain ⟨⟨hn0, hn1, hn2, hn3⟩, hfar, hlh, hss, hsold, htk, hpk⟩ := id hI
  have hl : lv_has ls 3 [(0, .ref qm)] := hl
  have hiX11 : ∀ w ∈ wsX110, w ∈ wsX11_suspects := fun _ h => List.mem_cons_of_mem _ (List.mem_append_right _ (h))
  generalize hQ : MQ _ _ _ _ _ _ _ = Q
  refine lv_iconst (v := 0) hx hb dX11_suspects_0 (by decide) ?_
  refine lv_istore_n (lv' := [(1, .int 0), (0, .ref qm)]) hx hb dX11_suspects_1 rfl hl (by decide) rfl (fun ls hl => ?_)
  refine lv_iconst (v := 0) hx hb dX11_suspects_2 (by decide) ?_
  refine lv_istore_n (lv' := [(2, .int 0), (1, .int 0), (0, .ref qm)]) hx hb dX11_suspects_3 rfl hl (by decide) rfl (fun ls hl => ?_)
  have loop4 : ∀ (ni4 i4 : Nat) (ls : Array Slot), i4 ≤ (rs_n zr 3) → (rs_n zr 3) + 1 ≤ i4 + ni4 → lv_has ls 3 [(2, .int (nI i4)), (1, .int (nI (fa_cnt (rsus zr) i4))), (0, .ref qm)] → W p l e ({ frames := 3, cells := 0, slots := 0, locals := 90 } : Room) s m ([.ref qm] : List Value).toArray below meth c0 s.heap [] 0 0 Q (F0 m 4 ls []) := by
    intro ni4
    induction ni4 with
    | zero =>
      intro i4  ls h1 h2
      exact absurd h2 (by omega)
    | succ ni4 ihi4 =>
      intro i4  ls hlei4 hni4  hl
      refine lv_iload_n hx hb dX11_suspects_4 rfl (lv_at hl 0 rfl) ?_
      refine lv_aload_n hx hb dX11_suspects_5 rfl (lv_at hl 2 rfl) ?_
      refine va_get (D := (dC, dI)) (ci := 11) (v := .int (nI (rs_n zr 3))) (C := RX11) (T := TX11) (N := 39) hx hb hts hiX11 hown hK hP 0 rfl rfl 34 (by decide) (hts (.fieldLink RX11 217 "TributePitchesModel" "parcels" "I") (List.mem_of_getElem? (i := 1) rfl)) (fun _ h9 => h9) rfl dX11_suspects_6 ?_
      refine lv_icmp_ge (tgt := 34) hx hb dX11_suspects_9 (by decide) (fun c1 => ?_) (fun c1 => ?_)
      · skip
        have hei4 : (rs_n zr 3) = i4 := (by have q := (nI_leI (a := (rs_n zr 3)) (b := i4) (by omega) (by omega)).mp c1; omega)
        subst hei4
        refine lv_iload_n hx hb dX11_suspects_34 rfl (lv_at hl 1 rfl) ?_
        subst hQ
        exact W.iret (v := nI (fa_cnt (rsus zr) (rs_n zr 3))) hx hb hr (fun t ht hW => ⟨⟨nI (fa_cnt (rsus zr) (rs_n zr 3)), zr, rfl, ⟨hI, ⟨rfl, rfl⟩⟩, (by rw [ht]; exact hP0), va_K.moved hW.alike hK, hD0⟩, (by rw [ht]; exact Nat.le_refl _), fun q _ _ => by rw [ht]⟩) (fun q h => absurd h List.not_mem_nil) dX11_suspects_35
      · skip
        have hlti4 : i4 < (rs_n zr 3) := (Nat.lt_or_ge i4 (rs_n zr 3)).elim id (fun q => absurd (nI_le q (by omega)) c1)
        refine lv_iload_n hx hb dX11_suspects_12 rfl (lv_at hl 1 rfl) ?_
        refine lv_aload_n hx hb dX11_suspects_13 rfl (lv_at hl 2 rfl) ?_
        refine lv_iload_n hx hb dX11_suspects_14 rfl (lv_at hl 0 rfl) ?_
        have hPc := hP.sub (ws' := [rcO qm ad zr, rcI cI ad zr 12 12, rcI cI ad zr 14 12, rcI cI ad zr 13 12, rcI cI ad zr 15 12, rcI cI ad zr 3 48, rcI cI ad zr 26 40, rcI cI ad zr 35 80, rcI cI ad zr 37 80]) [0, 9, 11, 10, 12, 2, 17, 25, 27] rfl
        have hDc := hD.sub (ws' := [rcO qm ad zr, rcI cI ad zr 12 12, rcI cI ad zr 14 12, rcI cI ad zr 13 12, rcI cI ad zr 15 12, rcI cI ad zr 3 48, rcI cI ad zr 26 40, rcI cI ad zr 35 80, rcI cI ad zr 37 80]) [0, 9, 11, 10, 12, 2, 17, 25, 27] (by decide) rfl
        have hKc := hK.sub (tys' := [(cI, .int)]) [0] rfl
        refine vp_callSi (va_Run.run (va_runV (As := [.int (nI i4)]) (rest := [.int (nI (fa_cnt (rsus zr) i4))]) ⟨hx, hb, hml, hown, hts⟩ (r_isSuspect l dC dI cI _ qm (.int (rs_i zr 0)) (.int (rs_i zr 1)) (.ref (ad 2)) (.ref (ad 4)) (.ref (ad 5)) (.int (rs_i zr 6)) (.ref (ad 7)) (.ref (ad 8)) (.ref (ad 9)) (.ref (ad 10)) (.int (nI (rs_n zr 0))) (.ref (ad 16)) (.int (nI (rs_n zr 1))) (.ref (ad 18)) (.ref (ad 19)) (.int (rs_i zr 20)) (.int (rs_i zr 21)) (.int (rs_i zr 22)) (.int (rs_i zr 23)) (.int (nI (rs_n zr 2))) (.ref (ad 25)) (.ref (ad 27)) (.ref (ad 28)) (.ref (ad 29)) (.ref (ad 30)) (.ref (ad 31)) (.ref (ad 32)) (.ref (ad 33)) (.int (nI (rs_n zr 3))) (.ref (ad 36)) (.int (rs_i zr 38)) (ad 12) (ad 14) (ad 13) (ad 15) (ad 3) (ad 26) (ad 35) (ad 37) i4 (rT zr i4) (rP zr i4) (rs_I zr 12) (rs_I zr 14) (rs_I zr 13) (rs_I zr 15) (rs_I zr 3) (rs_I zr 26) (rs_I zr 35) (rs_I zr 37) (by omega) (Nat.lt_of_lt_of_le (rtk hI hlti4).1 hn2) (Nat.lt_of_lt_of_le (rtk hI hlti4).2.2.1 hn0) (rtk hI hlti4).2.1 (rtk hI hlti4).2.2.2) (cwV 1 hts gX11_suspects_X11_isSuspect rfl rfl rfl (by decide +kernel) ⟨Nat.le_of_ble_eq_true rfl, Nat.le_of_ble_eq_true rfl⟩) (pw_preV (va_recv hKc hPc (ci := 11) (q0 := 0) rfl rfl) hPc hKc hDc hN) rfl rfl hl.1 rfl (lv_room (Nat.le_of_ble_eq_true rfl)) dX11_suspects_15 ⟨Nat.le_of_ble_eq_true rfl, Nat.le_of_ble_eq_true rfl⟩)) (fun r2 hr2 => ?_)
        have hr2 : r2 = if smax (onB (rs_I zr 12) (rs_I zr 14) (rs_I zr 13) (rs_I zr 15) (rP zr i4)) (rs_I zr 3) 48 < (rs_I zr 37) i4 then 1 else 0 := hr2
        have hr2 : r2 = if rsus zr i4 = true then 1 else 0 := by rw [hr2]; simp [rsus]
        refine lv_if_eq (tgt := 25) hx hb dX11_suspects_18 (by decide) (fun c3 => ?_) (fun c3 => ?_)
        · skip
          have c3 := (fa_bool_prop hr2).1.mp c3
          refine lv_iconst (v := 0) hx hb dX11_suspects_25 (by decide) ?_
          refine lv_iadd hx hb dX11_suspects_26 ?_
          refine lv_topi (fun vs evs => ?_)
          have evs : vs = nI (fa_cnt (rsus zr) (i4 + 1)) := by rw [evs]; rw [fa_cnt_no (by simpa using c3)]; simp
          subst evs
          refine lv_istore_n (lv' := [(1, .int (nI (fa_cnt (rsus zr) (i4 + 1)))), (2, .int (nI i4)), (0, .ref qm)]) hx hb dX11_suspects_27 rfl hl (by decide) rfl (fun ls hl => ?_)
          refine lv_iinc (v := nI (i4 + 1)) (lv' := [(2, .int (nI (i4 + 1))), (1, .int (nI (fa_cnt (rsus zr) (i4 + 1)))), (0, .ref qm)]) hx hb dX11_suspects_28 hl (k := 1) rfl (nI_1 i4) (by decide) rfl (fun ls hl => ?_)
          refine lv_goto (tgt := 4) hx hb dX11_suspects_31 (by decide) ?_
          exact ihi4 (i4 + 1)  ls (by omega) (by omega)  (lv_sub hl [0, 1, 2] rfl)
        · skip
          have c3 := (fa_bool_prop hr2).2.mp c3
          refine lv_iconst (v := 1) hx hb dX11_suspects_21 (by decide) ?_
          refine lv_goto (tgt := 26) hx hb dX11_suspects_22 (by decide) ?_
          refine lv_iadd hx hb dX11_suspects_26 ?_
          refine lv_topi (fun vs evs => ?_)
          have evs : vs = nI (fa_cnt (rsus zr) (i4 + 1)) := by rw [evs]; rw [fa_cnt_yes c3]; exact nI_1 _
          subst evs
          refine lv_istore_n (lv' := [(1, .int (nI (fa_cnt (rsus zr) (i4 + 1)))), (2, .int (nI i4)), (0, .ref qm)]) hx hb dX11_suspects_27 rfl hl (by decide) rfl (fun ls hl => ?_)
          refine lv_iinc (v := nI (i4 + 1)) (lv' := [(2, .int (nI (i4 + 1))), (1, .int (nI (fa_cnt (rsus zr) (i4 + 1)))), (0, .ref qm)]) hx hb dX11_suspects_28 hl (k := 1) rfl (nI_1 i4) (by decide) rfl (fun ls hl => ?_)
          refine lv_goto (tgt := 4) hx hb dX11_suspects_31 (by decide) ?_
          exact ihi4 (i4 + 1)  ls (by omega) (by omega)  (lv_sub hl [0, 1, 2] rfl)
  exact loop4 ((rs_n zr 3) + 1 - 0) 0  ls (by omega) (by omega)  (lv_sub hl [0, 1, 2] rfl)
def pR_suspect (zr : RS2) (ix : Int32) (r : Int32) (u : RS2) : Prop :=
  ((∀ q, q < rs_n zr 3 → rsus zr q = true → ix ≠ nI (fa_cnt (rsus zr) q)) ∧ r = ((-1)) ∧ u = zr) ∨
  (∃ i4 : Nat, (i4 < rs_n zr 3) ∧ (rsus zr i4 = true) ∧ (nI (fa_cnt (rsus zr) i4) = ix) ∧ r = (nI i4) ∧ u = zr)
set_option maxHeartbeats 4000000 in
set_option maxRecDepth 100000 in
theorem M_suspect (l : Launch) (dC : Nat → ClassId) (dI : Nat → Nat → Nat) (cI cJ cZ : ClassId) (sz : Nat) (qm : Nat) (ad : Nat → Nat) (zr : RS2) (ix : Int32) (hI : invR zr) : Met l yX11_suspect wsX11_suspect ({ frames := 3, cells := 0, slots := 0, locals := 90 }) (pw (dC, dI) [(cI, .int), (cJ, .long), (cZ, .boolean)] (rW qm cI cJ cZ ad zr) sz [.ref qm, .int ix]) (va_Qi (fun r (u : RS2) => invR u ∧ pR_suspect zr ix r u) (fun u t => bw (dC, dI) [(cI, .int), (cJ, .long), (cZ, .boolean)] (va_A (rW qm cI cJ cZ ad zr) sz) (rW qm cI cJ cZ ad u) t) (va_A (rW qm cI cJ cZ ad zr) sz)) 0 0 (va_A (rW qm cI cJ cZ ad zr) sz) := by
  refine pw_met (cc := cX11_suspect) (maxL := 4) (ret := (some .int)) (by decide) rfl (Nat.le_of_ble_eq_true rfl) ?_
  intro p e s m below meth c0 hx hb hr hml hown hlocks hnm hts hP0 hK hD0 hN hsz hA hS ls hl
  subst hsz
  have hP : va_P (dC, dI) vwCl [rcO qm ad zr, rcI cI ad zr 2 48, rcI cI ad zr 3 48, rcI cI ad zr 4 48, rcI cI ad zr 5 48, rcI cI ad zr 7 4, rcI cI ad zr 8 4, rcI cI ad zr 9 192, rcI cI ad zr 10 48, rcI cI ad zr 12 12, rcI cI ad zr 13 12, rcI cI ad zr 14 12, rcI cI ad zr 15 12, rcI cI ad zr 16 12, rcI cI ad zr 18 8, rcJ cJ ad zr 19 8, rcI cI ad zr 25 40, rcI cI ad zr 26 40, rcI cI ad zr 27 40, rcI cZ ad zr 28 40, rcJ cJ ad zr 29 40, rcJ cJ ad zr 30 40, rcJ cJ ad zr 31 40, rcJ cJ ad zr 32 40, rcJ cJ ad zr 33 40, rcI cI ad zr 35 80, rcI cI ad zr 36 80, rcI cI ad zr 37 80] s.heap := hP0
  have hD : va_D (va_A (rW qm cI cJ cZ ad zr) s.heap.size) [rcO qm ad zr, rcI cI ad zr 2 48, rcI cI ad zr 3 48, rcI cI ad zr 4 48, rcI cI ad zr 5 48, rcI cI ad zr 7 4, rcI cI ad zr 8 4, rcI cI ad zr 9 192, rcI cI ad zr 10 48, rcI cI ad zr 12 12, rcI cI ad zr 13 12, rcI cI ad zr 14 12, rcI cI ad zr 15 12, rcI cI ad zr 16 12, rcI cI ad zr 18 8, rcJ cJ ad zr 19 8, rcI cI ad zr 25 40, rcI cI ad zr 26 40, rcI cI ad zr 27 40, rcI cZ ad zr 28 40, rcJ cJ ad zr 29 40, rcJ cJ ad zr 30 40, rcJ cJ ad zr 31 40, rcJ cJ ad zr 32 40, rcJ cJ ad zr 33 40, rcI cI ad zr 35 80, rcI cI ad zr 36 80, rcI cI ad zr 37 80] := hD0
  obtain ⟨⟨hn0, hn1, hn2, hn3⟩, hfar, hlh, hss, hsold, htk, hpk⟩ := id hI
  have hl : lv_has ls 4 [(0, .ref qm), (1, .int ix)] := hl
  have hiX11 : ∀ w ∈ wsX110, w ∈ wsX11_suspect := fun _ h => List.mem_cons_of_mem _ (List.mem_append_right _ (h))
  generalize hQ : MQ _ _ _ _ _ _ _ = Q
  refine lv_iconst (v := 0) hx hb dX11_suspect_0 (by decide) ?_
  refine lv_istore_n (lv' := [(2, .int 0), (0, .ref qm), (1, .int ix)]) hx hb dX11_suspect_1 rfl hl (by decide) rfl (fun ls hl => ?_)
  refine lv_iconst (v := 0) hx hb dX11_suspect_2 (by decide) ?_
  refine lv_istore_n (lv' := [(3, .int 0), (2, .int 0), (0, .ref qm), (1, .int ix)]) hx hb dX11_suspect_3 rfl hl (by decide) rfl (fun ls hl => ?_)
  have loop4 : ∀ (ni4 i4 : Nat) (ls : Array Slot), i4 ≤ (rs_n zr 3) → (rs_n zr 3) + 1 ≤ i4 + ni4 → (∀ q, q < i4 → rsus zr q = true → ix ≠ nI (fa_cnt (rsus zr) q)) → lv_has ls 4 [(3, .int (nI i4)), (2, .int (nI (fa_cnt (rsus zr) i4))), (0, .ref qm), (1, .int ix)] → W p l e ({ frames := 3, cells := 0, slots := 0, locals := 90 } : Room) s m ([.ref qm, .int ix] : List Value).toArray below meth c0 s.heap [] 0 0 Q (F0 m 4 ls []) := by
    intro ni4
    induction ni4 with
    | zero =>
      intro i4  ls h1 h2
      exact absurd h2 (by omega)
    | succ ni4 ihi4 =>
      intro i4  ls hlei4 hni4 hall hl
      refine lv_iload_n hx hb dX11_suspect_4 rfl (lv_at hl 0 rfl) ?_
      refine lv_aload_n hx hb dX11_suspect_5 rfl (lv_at hl 2 rfl) ?_
      refine va_get (D := (dC, dI)) (ci := 11) (v := .int (nI (rs_n zr 3))) (C := RX11) (T := TX11) (N := 39) hx hb hts hiX11 hown hK hP 0 rfl rfl 34 (by decide) (hts (.fieldLink RX11 217 "TributePitchesModel" "parcels" "I") (List.mem_of_getElem? (i := 1) rfl)) (fun _ h9 => h9) rfl dX11_suspect_6 ?_
      refine lv_icmp_ge (tgt := 36) hx hb dX11_suspect_9 (by decide) (fun c1 => ?_) (fun c1 => ?_)
      · skip
        have hei4 : (rs_n zr 3) = i4 := (by have q := (nI_leI (a := (rs_n zr 3)) (b := i4) (by omega) (by omega)).mp c1; omega)
        subst hei4
        refine lv_iconst (v := (-1)) hx hb dX11_suspect_36 (by decide) ?_
        subst hQ
        exact W.iret (v := (-1)) hx hb hr (fun t ht hW => ⟨⟨(-1), zr, rfl, ⟨hI, (Or.inl ⟨hall, rfl, rfl⟩)⟩, (by rw [ht]; exact hP0), va_K.moved hW.alike hK, hD0⟩, (by rw [ht]; exact Nat.le_refl _), fun q _ _ => by rw [ht]⟩) (fun q h => absurd h List.not_mem_nil) dX11_suspect_37
      · skip
        have hlti4 : i4 < (rs_n zr 3) := (Nat.lt_or_ge i4 (rs_n zr 3)).elim id (fun q => absurd (nI_le q (by omega)) c1)
        refine lv_aload_n hx hb dX11_suspect_12 rfl (lv_at hl 2 rfl) ?_
        refine lv_iload_n hx hb dX11_suspect_13 rfl (lv_at hl 0 rfl) ?_
        have hPc := hP.sub (ws' := [rcO qm ad zr, rcI cI ad zr 12 12, rcI cI ad zr 14 12, rcI cI ad zr 13 12, rcI cI ad zr 15 12, rcI cI ad zr 3 48, rcI cI ad zr 26 40, rcI cI ad zr 35 80, rcI cI ad zr 37 80]) [0, 9, 11, 10, 12, 2, 17, 25, 27] rfl
        have hDc := hD.sub (ws' := [rcO qm ad zr, rcI cI ad zr 12 12, rcI cI ad zr 14 12, rcI cI ad zr 13 12, rcI cI ad zr 15 12, rcI cI ad zr 3 48, rcI cI ad zr 26 40, rcI cI ad zr 35 80, rcI cI ad zr 37 80]) [0, 9, 11, 10, 12, 2, 17, 25, 27] (by decide) rfl
        have hKc := hK.sub (tys' := [(cI, .int)]) [0] rfl
        refine vp_callSi (va_Run.run (va_runV (As := [.int (nI i4)]) (rest := []) ⟨hx, hb, hml, hown, hts⟩ (r_isSuspect l dC dI cI _ qm (.int (rs_i zr 0)) (.int (rs_i zr 1)) (.ref (ad 2)) (.ref (ad 4)) (.ref (ad 5)) (.int (rs_i zr 6)) (.ref (ad 7)) (.ref (ad 8)) (.ref (ad 9)) (.ref (ad 10)) (.int (nI (rs_n zr 0))) (.ref (ad 16)) (.int (nI (rs_n zr 1))) (.ref (ad 18)) (.ref (ad 19)) (.int (rs_i zr 20)) (.int (rs_i zr 21)) (.int (rs_i zr 22)) (.int (rs_i zr 23)) (.int (nI (rs_n zr 2))) (.ref (ad 25)) (.ref (ad 27)) (.ref (ad 28)) (.ref (ad 29)) (.ref (ad 30)) (.ref (ad 31)) (.ref (ad 32)) (.ref (ad 33)) (.int (nI (rs_n zr 3))) (.ref (ad 36)) (.int (rs_i zr 38)) (ad 12) (ad 14) (ad 13) (ad 15) (ad 3) (ad 26) (ad 35) (ad 37) i4 (rT zr i4) (rP zr i4) (rs_I zr 12) (rs_I zr 14) (rs_I zr 13) (rs_I zr 15) (rs_I zr 3) (rs_I zr 26) (rs_I zr 35) (rs_I zr 37) (by omega) (Nat.lt_of_lt_of_le (rtk hI hlti4).1 hn2) (Nat.lt_of_lt_of_le (rtk hI hlti4).2.2.1 hn0) (rtk hI hlti4).2.1 (rtk hI hlti4).2.2.2) (cwV 1 hts gX11_suspect_X11_isSuspect rfl rfl rfl (by decide +kernel) ⟨Nat.le_of_ble_eq_true rfl, Nat.le_of_ble_eq_true rfl⟩) (pw_preV (va_recv hKc hPc (ci := 11) (q0 := 0) rfl rfl) hPc hKc hDc hN) rfl rfl hl.1 rfl (lv_room (Nat.le_of_ble_eq_true rfl)) dX11_suspect_14 ⟨Nat.le_of_ble_eq_true rfl, Nat.le_of_ble_eq_true rfl⟩)) (fun r2 hr2 => ?_)
        have hr2 : r2 = if smax (onB (rs_I zr 12) (rs_I zr 14) (rs_I zr 13) (rs_I zr 15) (rP zr i4)) (rs_I zr 3) 48 < (rs_I zr 37) i4 then 1 else 0 := hr2
        have hr2 : r2 = if rsus zr i4 = true then 1 else 0 := by rw [hr2]; simp [rsus]
        refine lv_if_eq (tgt := 30) hx hb dX11_suspect_17 (by decide) (fun c3 => ?_) (fun c3 => ?_)
        · skip
          have c3 := (fa_bool_prop hr2).1.mp c3
          refine lv_iinc (v := nI (i4 + 1)) (lv' := [(3, .int (nI (i4 + 1))), (2, .int (nI (fa_cnt (rsus zr) i4))), (0, .ref qm), (1, .int ix)]) hx hb dX11_suspect_30 hl (k := 0) rfl (nI_1 i4) (by decide) rfl (fun ls hl => ?_)
          refine lv_goto (tgt := 4) hx hb dX11_suspect_33 (by decide) ?_
          have e9 : fa_cnt (rsus zr) (i4 + 1) = fa_cnt (rsus zr) i4 := fa_cnt_no (by simpa using c3)
          rw [← e9] at hl
          have hl : lv_has ls 4 [(3, .int (nI (i4 + 1))), (2, .int (nI (fa_cnt (rsus zr) (i4 + 1)))), (0, .ref qm), (1, .int ix)] := hl
          exact ihi4 (i4 + 1)  ls (by omega) (by omega) (fun q hq hs => (Nat.lt_or_ge q i4).elim (fun z => hall q z hs) (fun z => by have e8 : q = i4 := (by omega); rw [e8] at hs ⊢; exact absurd hs c3)) (lv_sub hl [0, 1, 2, 3] rfl)
        · skip
          have c3 := (fa_bool_prop hr2).2.mp c3
          refine lv_iload_n hx hb dX11_suspect_20 rfl (lv_at hl 1 rfl) ?_
          refine lv_iload_n hx hb dX11_suspect_21 rfl (lv_at hl 3 rfl) ?_
          refine lv_icmp_ne (tgt := 27) hx hb dX11_suspect_22 (by decide) (fun c4 => ?_) (fun c4 => ?_)
          · skip
            refine lv_iinc (v := nI (fa_cnt (rsus zr) i4 + 1)) (lv' := [(2, .int (nI (fa_cnt (rsus zr) i4 + 1))), (3, .int (nI i4)), (0, .ref qm), (1, .int ix)]) hx hb dX11_suspect_27 hl (k := 1) rfl (nI_1 _) (by decide) rfl (fun ls hl => ?_)
            refine lv_iinc (v := nI (i4 + 1)) (lv' := [(3, .int (nI (i4 + 1))), (2, .int (nI (fa_cnt (rsus zr) i4 + 1))), (0, .ref qm), (1, .int ix)]) hx hb dX11_suspect_30 hl (k := 1) rfl (nI_1 i4) (by decide) rfl (fun ls hl => ?_)
            refine lv_goto (tgt := 4) hx hb dX11_suspect_33 (by decide) ?_
            have e9 : fa_cnt (rsus zr) (i4 + 1) = fa_cnt (rsus zr) i4 + 1 := fa_cnt_yes c3
            rw [← e9] at hl
            have hl : lv_has ls 4 [(3, .int (nI (i4 + 1))), (2, .int (nI (fa_cnt (rsus zr) (i4 + 1)))), (0, .ref qm), (1, .int ix)] := hl
            exact ihi4 (i4 + 1)  ls (by omega) (by omega) (fun q hq hs => (Nat.lt_or_ge q i4).elim (fun z => hall q z hs) (fun z => by have e8 : q = i4 := (by omega); rw [e8] at hs ⊢; exact fun z => c4 z.symm)) (lv_sub hl [0, 1, 2, 3] rfl)
          · skip
            refine lv_iload_n hx hb dX11_suspect_25 rfl (lv_at hl 0 rfl) ?_
            subst hQ
            exact W.iret (v := nI i4) hx hb hr (fun t ht hW => ⟨⟨nI i4, zr, rfl, ⟨hI, (Or.inr ⟨i4, hlti4, c3, c4, rfl, rfl⟩)⟩, (by rw [ht]; exact hP0), va_K.moved hW.alike hK, hD0⟩, (by rw [ht]; exact Nat.le_refl _), fun q _ _ => by rw [ht]⟩) (fun q h => absurd h List.not_mem_nil) dX11_suspect_26
  exact loop4 ((rs_n zr 3) + 1 - 0) 0  ls (by omega) (by omega) (fun q hq => absurd hq (Nat.not_lt_zero q)) (lv_sub hl [0, 1, 2, 3] rfl)
def pR_copy (zr : RS2) (k : Int32) (ix : Int32) (ot : Int32) (jx : Int32) (n : Int32) (r : Int32) (u : RS2) : Prop :=
  ((∀ j, j < 4 → k ≠ nI j) ∧ r = ((-1)) ∧ u = (va_up (rs_i zr) 0 0, rs_n zr, rs_I zr, rs_L zr)) ∨
  (∃ js : Nat, k = nI js ∧ (js < 4) ∧ (∀ j, j < 4 → ot ≠ nI j) ∧ r = ((-1)) ∧ u = (va_up (rs_i zr) 0 0, rs_n zr, rs_I zr, rs_L zr)) ∨
  (∃ js : Nat, k = nI js ∧ (js < 4) ∧ ∃ jo : Nat, ot = nI jo ∧ (jo < 4) ∧ (((rs_I zr 7) js) < 0) ∧ r = (-10 - 1) ∧ u = (va_up (rs_i zr) 0 1, rs_n zr, rs_I zr, rs_L zr)) ∨
  (∃ js : Nat, k = nI js ∧ (js < 4) ∧ ∃ jo : Nat, ot = nI jo ∧ (jo < 4) ∧ (¬ ((rs_I zr 7) js) < 0) ∧ (0 ≤ ((rs_I zr 7) jo)) ∧ (((rs_I zr 8) js) = ((rs_I zr 8) jo)) ∧ (¬ (0 ≤ ix ∧ 0 ≤ n ∧ ix.toInt64 + n.toInt64 ≤ ((rs_I zr 7) js).toInt64)) ∧ r = (-10 - 3) ∧ u = (va_up (rs_i zr) 0 3, rs_n zr, rs_I zr, rs_L zr)) ∨
  (∃ js : Nat, k = nI js ∧ (js < 4) ∧ ∃ jo : Nat, ot = nI jo ∧ (jo < 4) ∧ (¬ ((rs_I zr 7) js) < 0) ∧ (0 ≤ ((rs_I zr 7) jo)) ∧ (((rs_I zr 8) js) = ((rs_I zr 8) jo)) ∧ ∃ ia : Nat, ∃ ja : Nat, ∃ nn2 : Nat, ix = nI ia ∧ jx = nI ja ∧ n = nI nn2 ∧ (ia + nn2 ≤ 48) ∧ (ja + nn2 ≤ 48) ∧ (((ia + nn2 : Nat) : Int) ≤ (rs_I zr 7 js).toInt) ∧ (((ja + nn2 : Nat) : Int) ≤ (rs_I zr 7 jo).toInt) ∧ r = ((nI nn2)) ∧ u = (va_up (rs_i zr) 0 0, rs_n zr, va_up (va_up (rs_I zr) 9 (cpt (cpf (rs_I zr 9) (48 * js + ia) (rs_I zr 10) nn2) (48 * jo + ja) (rs_I zr 9) nn2)) 10 (cpf (rs_I zr 9) (48 * js + ia) (rs_I zr 10) nn2), rs_L zr)) ∨
  (∃ js : Nat, k = nI js ∧ (js < 4) ∧ ∃ jo : Nat, ot = nI jo ∧ (jo < 4) ∧ (¬ ((rs_I zr 7) js) < 0) ∧ (0 ≤ ((rs_I zr 7) jo)) ∧ (((rs_I zr 8) js) = ((rs_I zr 8) jo)) ∧ (0 ≤ ix ∧ 0 ≤ n ∧ ix.toInt64 + n.toInt64 ≤ ((rs_I zr 7) js).toInt64) ∧ (¬ (0 ≤ jx ∧ 0 ≤ n ∧ jx.toInt64 + n.toInt64 ≤ ((rs_I zr 7) jo).toInt64)) ∧ r = (-10 - 3) ∧ u = (va_up (rs_i zr) 0 3, rs_n zr, rs_I zr, rs_L zr)) ∨
  (∃ js : Nat, k = nI js ∧ (js < 4) ∧ ∃ jo : Nat, ot = nI jo ∧ (jo < 4) ∧ (¬ ((rs_I zr 7) js) < 0) ∧ (0 ≤ ((rs_I zr 7) jo)) ∧ (¬ ((rs_I zr 8) js) = ((rs_I zr 8) jo)) ∧ r = (-10 - 2) ∧ u = (va_up (rs_i zr) 0 2, rs_n zr, rs_I zr, rs_L zr)) ∨
  (∃ js : Nat, k = nI js ∧ (js < 4) ∧ ∃ jo : Nat, ot = nI jo ∧ (jo < 4) ∧ (¬ ((rs_I zr 7) js) < 0) ∧ (¬ 0 ≤ ((rs_I zr 7) jo)) ∧ r = (-10 - 1) ∧ u = (va_up (rs_i zr) 0 1, rs_n zr, rs_I zr, rs_L zr))
set_option maxHeartbeats 4000000 in
theorem lr_copy_0 (qm : Nat) (cI cJ cZ : ClassId) (ad : Nat → Nat) (zr : RS2) (k : Int32) (ix : Int32) (ot : Int32) (jx : Int32) (n : Int32) (hnojs : ∀ j, j < 4 → k ≠ nI j) (hI : invR zr) : invR (va_up (rs_i zr) 0 0, rs_n zr, rs_I zr, rs_L zr) ∧ rW qm cI cJ cZ ad (va_up (rs_i zr) 0 0, rs_n zr, rs_I zr, rs_L zr) = [(qm, .inr (11, [.int 0, .int (rs_i zr 1), .ref (ad 2), .ref (ad 3), .ref (ad 4), .ref (ad 5), .int (rs_i zr 6), .ref (ad 7), .ref (ad 8), .ref (ad 9), .ref (ad 10), .int (nI (rs_n zr 0)), .ref (ad 12), .ref (ad 13), .ref (ad 14), .ref (ad 15), .ref (ad 16), .int (nI (rs_n zr 1)), .ref (ad 18), .ref (ad 19), .int (rs_i zr 20), .int (rs_i zr 21), .int (rs_i zr 22), .int (rs_i zr 23), .int (nI (rs_n zr 2)), .ref (ad 25), .ref (ad 26), .ref (ad 27), .ref (ad 28), .ref (ad 29), .ref (ad 30), .ref (ad 31), .ref (ad 32), .ref (ad 33), .int (nI (rs_n zr 3)), .ref (ad 35), .ref (ad 36), .ref (ad 37), .int (rs_i zr 38)])), rcI cI ad zr 2 48, rcI cI ad zr 3 48, rcI cI ad zr 4 48, rcI cI ad zr 5 48, rcI cI ad zr 7 4, rcI cI ad zr 8 4, rcI cI ad zr 9 192, rcI cI ad zr 10 48, rcI cI ad zr 12 12, rcI cI ad zr 13 12, rcI cI ad zr 14 12, rcI cI ad zr 15 12, rcI cI ad zr 16 12, rcI cI ad zr 18 8, rcJ cJ ad zr 19 8, rcI cI ad zr 25 40, rcI cI ad zr 26 40, rcI cI ad zr 27 40, rcI cZ ad zr 28 40, rcJ cJ ad zr 29 40, rcJ cJ ad zr 30 40, rcJ cJ ad zr 31 40, rcJ cJ ad zr 32 40, rcJ cJ ad zr 33 40, rcI cI ad zr 35 80, rcI cI ad zr 36 80, rcI cI ad zr 37 80] := by
  obtain ⟨⟨hn0, hn1, hn2, hn3⟩, hfar, hlh, hss, hsold, htk, hpk⟩ := id hI
  exact ⟨hI, by simp [rW, rcO, rcI, rcJ, rs_i, rs_n, rs_I, rs_L, va_up, upd]⟩
set_option maxHeartbeats 4000000 in
theorem lr_copy_1 (qm : Nat) (cI cJ cZ : ClassId) (ad : Nat → Nat) (zr : RS2) (ix : Int32) (ot : Int32) (jx : Int32) (n : Int32) (js : Nat) (hjs : js < 4) (hnojo : ∀ j, j < 4 → ot ≠ nI j) (hI : invR zr) : invR (va_up (rs_i zr) 0 0, rs_n zr, rs_I zr, rs_L zr) ∧ rW qm cI cJ cZ ad (va_up (rs_i zr) 0 0, rs_n zr, rs_I zr, rs_L zr) = [(qm, .inr (11, [.int 0, .int (rs_i zr 1), .ref (ad 2), .ref (ad 3), .ref (ad 4), .ref (ad 5), .int (rs_i zr 6), .ref (ad 7), .ref (ad 8), .ref (ad 9), .ref (ad 10), .int (nI (rs_n zr 0)), .ref (ad 12), .ref (ad 13), .ref (ad 14), .ref (ad 15), .ref (ad 16), .int (nI (rs_n zr 1)), .ref (ad 18), .ref (ad 19), .int (rs_i zr 20), .int (rs_i zr 21), .int (rs_i zr 22), .int (rs_i zr 23), .int (nI (rs_n zr 2)), .ref (ad 25), .ref (ad 26), .ref (ad 27), .ref (ad 28), .ref (ad 29), .ref (ad 30), .ref (ad 31), .ref (ad 32), .ref (ad 33), .int (nI (rs_n zr 3)), .ref (ad 35), .ref (ad 36), .ref (ad 37), .int (rs_i zr 38)])), rcI cI ad zr 2 48, rcI cI ad zr 3 48, rcI cI ad zr 4 48, rcI cI ad zr 5 48, rcI cI ad zr 7 4, rcI cI ad zr 8 4, rcI cI ad zr 9 192, rcI cI ad zr 10 48, rcI cI ad zr 12 12, rcI cI ad zr 13 12, rcI cI ad zr 14 12, rcI cI ad zr 15 12, rcI cI ad zr 16 12, rcI cI ad zr 18 8, rcJ cJ ad zr 19 8, rcI cI ad zr 25 40, rcI cI ad zr 26 40, rcI cI ad zr 27 40, rcI cZ ad zr 28 40, rcJ cJ ad zr 29 40, rcJ cJ ad zr 30 40, rcJ cJ ad zr 31 40, rcJ cJ ad zr 32 40, rcJ cJ ad zr 33 40, rcI cI ad zr 35 80, rcI cI ad zr 36 80, rcI cI ad zr 37 80] := by
  obtain ⟨⟨hn0, hn1, hn2, hn3⟩, hfar, hlh, hss, hsold, htk, hpk⟩ := id hI
  exact ⟨hI, by simp [rW, rcO, rcI, rcJ, rs_i, rs_n, rs_I, rs_L, va_up, upd]⟩
set_option maxHeartbeats 4000000 in
theorem lr_copy_2 (qm : Nat) (cI cJ cZ : ClassId) (ad : Nat → Nat) (zr : RS2) (ix : Int32) (jx : Int32) (n : Int32) (js : Nat) (jo : Nat) (hjs : js < 4) (hjo : jo < 4) (c10 : ((rs_I zr 7) js) < 0) (hI : invR zr) : invR (va_up (rs_i zr) 0 1, rs_n zr, rs_I zr, rs_L zr) ∧ rW qm cI cJ cZ ad (va_up (rs_i zr) 0 1, rs_n zr, rs_I zr, rs_L zr) = [(qm, .inr (11, [.int 1, .int (rs_i zr 1), .ref (ad 2), .ref (ad 3), .ref (ad 4), .ref (ad 5), .int (rs_i zr 6), .ref (ad 7), .ref (ad 8), .ref (ad 9), .ref (ad 10), .int (nI (rs_n zr 0)), .ref (ad 12), .ref (ad 13), .ref (ad 14), .ref (ad 15), .ref (ad 16), .int (nI (rs_n zr 1)), .ref (ad 18), .ref (ad 19), .int (rs_i zr 20), .int (rs_i zr 21), .int (rs_i zr 22), .int (rs_i zr 23), .int (nI (rs_n zr 2)), .ref (ad 25), .ref (ad 26), .ref (ad 27), .ref (ad 28), .ref (ad 29), .ref (ad 30), .ref (ad 31), .ref (ad 32), .ref (ad 33), .int (nI (rs_n zr 3)), .ref (ad 35), .ref (ad 36), .ref (ad 37), .int (rs_i zr 38)])), rcI cI ad zr 2 48, rcI cI ad zr 3 48, rcI cI ad zr 4 48, rcI cI ad zr 5 48, rcI cI ad zr 7 4, rcI cI ad zr 8 4, rcI cI ad zr 9 192, rcI cI ad zr 10 48, rcI cI ad zr 12 12, rcI cI ad zr 13 12, rcI cI ad zr 14 12, rcI cI ad zr 15 12, rcI cI ad zr 16 12, rcI cI ad zr 18 8, rcJ cJ ad zr 19 8, rcI cI ad zr 25 40, rcI cI ad zr 26 40, rcI cI ad zr 27 40, rcI cZ ad zr 28 40, rcJ cJ ad zr 29 40, rcJ cJ ad zr 30 40, rcJ cJ ad zr 31 40, rcJ cJ ad zr 32 40, rcJ cJ ad zr 33 40, rcI cI ad zr 35 80, rcI cI ad zr 36 80, rcI cI ad zr 37 80] := by
  obtain ⟨⟨hn0, hn1, hn2, hn3⟩, hfar, hlh, hss, hsold, htk, hpk⟩ := id hI
  exact ⟨hI, by simp [rW, rcO, rcI, rcJ, rs_i, rs_n, rs_I, rs_L, va_up, upd]⟩
set_option maxHeartbeats 4000000 in
theorem lr_copy_3 (qm : Nat) (cI cJ cZ : ClassId) (ad : Nat → Nat) (zr : RS2) (ix : Int32) (jx : Int32) (n : Int32) (js : Nat) (jo : Nat) (hjs : js < 4) (hjo : jo < 4) (c10 : ¬ ((rs_I zr 7) js) < 0) (c13 : 0 ≤ ((rs_I zr 7) jo)) (c16 : ((rs_I zr 8) js) = ((rs_I zr 8) jo)) (c19 : ¬ (0 ≤ ix ∧ 0 ≤ n ∧ ix.toInt64 + n.toInt64 ≤ ((rs_I zr 7) js).toInt64)) (hI : invR zr) : invR (va_up (rs_i zr) 0 3, rs_n zr, rs_I zr, rs_L zr) ∧ rW qm cI cJ cZ ad (va_up (rs_i zr) 0 3, rs_n zr, rs_I zr, rs_L zr) = [(qm, .inr (11, [.int 3, .int (rs_i zr 1), .ref (ad 2), .ref (ad 3), .ref (ad 4), .ref (ad 5), .int (rs_i zr 6), .ref (ad 7), .ref (ad 8), .ref (ad 9), .ref (ad 10), .int (nI (rs_n zr 0)), .ref (ad 12), .ref (ad 13), .ref (ad 14), .ref (ad 15), .ref (ad 16), .int (nI (rs_n zr 1)), .ref (ad 18), .ref (ad 19), .int (rs_i zr 20), .int (rs_i zr 21), .int (rs_i zr 22), .int (rs_i zr 23), .int (nI (rs_n zr 2)), .ref (ad 25), .ref (ad 26), .ref (ad 27), .ref (ad 28), .ref (ad 29), .ref (ad 30), .ref (ad 31), .ref (ad 32), .ref (ad 33), .int (nI (rs_n zr 3)), .ref (ad 35), .ref (ad 36), .ref (ad 37), .int (rs_i zr 38)])), rcI cI ad zr 2 48, rcI cI ad zr 3 48, rcI cI ad zr 4 48, rcI cI ad zr 5 48, rcI cI ad zr 7 4, rcI cI ad zr 8 4, rcI cI ad zr 9 192, rcI cI ad zr 10 48, rcI cI ad zr 12 12, rcI cI ad zr 13 12, rcI cI ad zr 14 12, rcI cI ad zr 15 12, rcI cI ad zr 16 12, rcI cI ad zr 18 8, rcJ cJ ad zr 19 8, rcI cI ad zr 25 40, rcI cI ad zr 26 40, rcI cI ad zr 27 40, rcI cZ ad zr 28 40, rcJ cJ ad zr 29 40, rcJ cJ ad zr 30 40, rcJ cJ ad zr 31 40, rcJ cJ ad zr 32 40, rcJ cJ ad zr 33 40, rcI cI ad zr 35 80, rcI cI ad zr 36 80, rcI cI ad zr 37 80] := by
  obtain ⟨⟨hn0, hn1, hn2, hn3⟩, hfar, hlh, hss, hsold, htk, hpk⟩ := id hI
  exact ⟨hI, by simp [rW, rcO, rcI, rcJ, rs_i, rs_n, rs_I, rs_L, va_up, upd]⟩
set_option maxHeartbeats 4000000 in
theorem lr_copy_4 (qm : Nat) (cI cJ cZ : ClassId) (ad : Nat → Nat) (zr : RS2) (js : Nat) (jo : Nat) (ia : Nat) (ja : Nat) (nn2 : Nat) (hjs : js < 4) (hjo : jo < 4) (c10 : ¬ ((rs_I zr 7) js) < 0) (c13 : 0 ≤ ((rs_I zr 7) jo)) (c16 : ((rs_I zr 8) js) = ((rs_I zr 8) jo)) (hian : ia + nn2 ≤ 48) (hjan : ja + nn2 ≤ 48) (hia2 : ((ia + nn2 : Nat) : Int) ≤ (rs_I zr 7 js).toInt) (hja2 : ((ja + nn2 : Nat) : Int) ≤ (rs_I zr 7 jo).toInt) (hI : invR zr) : invR (va_up (rs_i zr) 0 0, rs_n zr, va_up (va_up (rs_I zr) 9 (cpt (cpf (rs_I zr 9) (48 * js + ia) (rs_I zr 10) nn2) (48 * jo + ja) (rs_I zr 9) nn2)) 10 (cpf (rs_I zr 9) (48 * js + ia) (rs_I zr 10) nn2), rs_L zr) ∧ rW qm cI cJ cZ ad (va_up (rs_i zr) 0 0, rs_n zr, va_up (va_up (rs_I zr) 9 (cpt (cpf (rs_I zr 9) (48 * js + ia) (rs_I zr 10) nn2) (48 * jo + ja) (rs_I zr 9) nn2)) 10 (cpf (rs_I zr 9) (48 * js + ia) (rs_I zr 10) nn2), rs_L zr) = [(qm, .inr (11, [.int 0, .int (rs_i zr 1), .ref (ad 2), .ref (ad 3), .ref (ad 4), .ref (ad 5), .int (rs_i zr 6), .ref (ad 7), .ref (ad 8), .ref (ad 9), .ref (ad 10), .int (nI (rs_n zr 0)), .ref (ad 12), .ref (ad 13), .ref (ad 14), .ref (ad 15), .ref (ad 16), .int (nI (rs_n zr 1)), .ref (ad 18), .ref (ad 19), .int (rs_i zr 20), .int (rs_i zr 21), .int (rs_i zr 22), .int (rs_i zr 23), .int (nI (rs_n zr 2)), .ref (ad 25), .ref (ad 26), .ref (ad 27), .ref (ad 28), .ref (ad 29), .ref (ad 30), .ref (ad 31), .ref (ad 32), .ref (ad 33), .int (nI (rs_n zr 3)), .ref (ad 35), .ref (ad 36), .ref (ad 37), .int (rs_i zr 38)])), rcI cI ad zr 2 48, rcI cI ad zr 3 48, rcI cI ad zr 4 48, rcI cI ad zr 5 48, rcI cI ad zr 7 4, rcI cI ad zr 8 4, (ad 9, .inl (cI, 192, .inl (cpt (cpf (rs_I zr 9) (48 * js + ia) (rs_I zr 10) nn2) (48 * jo + ja) (rs_I zr 9) nn2))), (ad 10, .inl (cI, 48, .inl (cpf (rs_I zr 9) (48 * js + ia) (rs_I zr 10) nn2))), rcI cI ad zr 12 12, rcI cI ad zr 13 12, rcI cI ad zr 14 12, rcI cI ad zr 15 12, rcI cI ad zr 16 12, rcI cI ad zr 18 8, rcJ cJ ad zr 19 8, rcI cI ad zr 25 40, rcI cI ad zr 26 40, rcI cI ad zr 27 40, rcI cZ ad zr 28 40, rcJ cJ ad zr 29 40, rcJ cJ ad zr 30 40, rcJ cJ ad zr 31 40, rcJ cJ ad zr 32 40, rcJ cJ ad zr 33 40, rcI cI ad zr 35 80, rcI cI ad zr 36 80, rcI cI ad zr 37 80] := by
  obtain ⟨⟨hn0, hn1, hn2, hn3⟩, hfar, hlh, hss, hsold, htk, hpk⟩ := id hI
  exact ⟨hI, by simp [rW, rcO, rcI, rcJ, rs_i, rs_n, rs_I, rs_L, va_up, upd]⟩
set_option maxHeartbeats 4000000 in
theorem lr_copy_5 (qm : Nat) (cI cJ cZ : ClassId) (ad : Nat → Nat) (zr : RS2) (ix : Int32) (jx : Int32) (n : Int32) (js : Nat) (jo : Nat) (hjs : js < 4) (hjo : jo < 4) (c10 : ¬ ((rs_I zr 7) js) < 0) (c13 : 0 ≤ ((rs_I zr 7) jo)) (c16 : ((rs_I zr 8) js) = ((rs_I zr 8) jo)) (c19 : 0 ≤ ix ∧ 0 ≤ n ∧ ix.toInt64 + n.toInt64 ≤ ((rs_I zr 7) js).toInt64) (c23 : ¬ (0 ≤ jx ∧ 0 ≤ n ∧ jx.toInt64 + n.toInt64 ≤ ((rs_I zr 7) jo).toInt64)) (hI : invR zr) : invR (va_up (rs_i zr) 0 3, rs_n zr, rs_I zr, rs_L zr) ∧ rW qm cI cJ cZ ad (va_up (rs_i zr) 0 3, rs_n zr, rs_I zr, rs_L zr) = [(qm, .inr (11, [.int 3, .int (rs_i zr 1), .ref (ad 2), .ref (ad 3), .ref (ad 4), .ref (ad 5), .int (rs_i zr 6), .ref (ad 7), .ref (ad 8), .ref (ad 9), .ref (ad 10), .int (nI (rs_n zr 0)), .ref (ad 12), .ref (ad 13), .ref (ad 14), .ref (ad 15), .ref (ad 16), .int (nI (rs_n zr 1)), .ref (ad 18), .ref (ad 19), .int (rs_i zr 20), .int (rs_i zr 21), .int (rs_i zr 22), .int (rs_i zr 23), .int (nI (rs_n zr 2)), .ref (ad 25), .ref (ad 26), .ref (ad 27), .ref (ad 28), .ref (ad 29), .ref (ad 30), .ref (ad 31), .ref (ad 32), .ref (ad 33), .int (nI (rs_n zr 3)), .ref (ad 35), .ref (ad 36), .ref (ad 37), .int (rs_i zr 38)])), rcI cI ad zr 2 48, rcI cI ad zr 3 48, rcI cI ad zr 4 48, rcI cI ad zr 5 48, rcI cI ad zr 7 4, rcI cI ad zr 8 4, rcI cI ad zr 9 192, rcI cI ad zr 10 48, rcI cI ad zr 12 12, rcI cI ad zr 13 12, rcI cI ad zr 14 12, rcI cI ad zr 15 12, rcI cI ad zr 16 12, rcI cI ad zr 18 8, rcJ cJ ad zr 19 8, rcI cI ad zr 25 40, rcI cI ad zr 26 40, rcI cI ad zr 27 40, rcI cZ ad zr 28 40, rcJ cJ ad zr 29 40, rcJ cJ ad zr 30 40, rcJ cJ ad zr 31 40, rcJ cJ ad zr 32 40, rcJ cJ ad zr 33 40, rcI cI ad zr 35 80, rcI cI ad zr 36 80, rcI cI ad zr 37 80] := by
  obtain ⟨⟨hn0, hn1, hn2, hn3⟩, hfar, hlh, hss, hsold, htk, hpk⟩ := id hI
  exact ⟨hI, by simp [rW, rcO, rcI, rcJ, rs_i, rs_n, rs_I, rs_L, va_up, upd]⟩
set_option maxHeartbeats 4000000 in
theorem lr_copy_6 (qm : Nat) (cI cJ cZ : ClassId) (ad : Nat → Nat) (zr : RS2) (ix : Int32) (jx : Int32) (n : Int32) (js : Nat) (jo : Nat) (hjs : js < 4) (hjo : jo < 4) (c10 : ¬ ((rs_I zr 7) js) < 0) (c13 : 0 ≤ ((rs_I zr 7) jo)) (c16 : ¬ ((rs_I zr 8) js) = ((rs_I zr 8) jo)) (hI : invR zr) : invR (va_up (rs_i zr) 0 2, rs_n zr, rs_I zr, rs_L zr) ∧ rW qm cI cJ cZ ad (va_up (rs_i zr) 0 2, rs_n zr, rs_I zr, rs_L zr) = [(qm, .inr (11, [.int 2, .int (rs_i zr 1), .ref (ad 2), .ref (ad 3), .ref (ad 4), .ref (ad 5), .int (rs_i zr 6), .ref (ad 7), .ref (ad 8), .ref (ad 9), .ref (ad 10), .int (nI (rs_n zr 0)), .ref (ad 12), .ref (ad 13), .ref (ad 14), .ref (ad 15), .ref (ad 16), .int (nI (rs_n zr 1)), .ref (ad 18), .ref (ad 19), .int (rs_i zr 20), .int (rs_i zr 21), .int (rs_i zr 22), .int (rs_i zr 23), .int (nI (rs_n zr 2)), .ref (ad 25), .ref (ad 26), .ref (ad 27), .ref (ad 28), .ref (ad 29), .ref (ad 30), .ref (ad 31), .ref (ad 32), .ref (ad 33), .int (nI (rs_n zr 3)), .ref (ad 35), .ref (ad 36), .ref (ad 37), .int (rs_i zr 38)])), rcI cI ad zr 2 48, rcI cI ad zr 3 48, rcI cI ad zr 4 48, rcI cI ad zr 5 48, rcI cI ad zr 7 4, rcI cI ad zr 8 4, rcI cI ad zr 9 192, rcI cI ad zr 10 48, rcI cI ad zr 12 12, rcI cI ad zr 13 12, rcI cI ad zr 14 12, rcI cI ad zr 15 12, rcI cI ad zr 16 12, rcI cI ad zr 18 8, rcJ cJ ad zr 19 8, rcI cI ad zr 25 40, rcI cI ad zr 26 40, rcI cI ad zr 27 40, rcI cZ ad zr 28 40, rcJ cJ ad zr 29 40, rcJ cJ ad zr 30 40, rcJ cJ ad zr 31 40, rcJ cJ ad zr 32 40, rcJ cJ ad zr 33 40, rcI cI ad zr 35 80, rcI cI ad zr 36 80, rcI cI ad zr 37 80] := by
  obtain ⟨⟨hn0, hn1, hn2, hn3⟩, hfar, hlh, hss, hsold, htk, hpk⟩ := id hI
  exact ⟨hI, by simp [rW, rcO, rcI, rcJ, rs_i, rs_n, rs_I, rs_L, va_up, upd]⟩
set_option maxHeartbeats 4000000 in
theorem lr_copy_7 (qm : Nat) (cI cJ cZ : ClassId) (ad : Nat → Nat) (zr : RS2) (ix : Int32) (jx : Int32) (n : Int32) (js : Nat) (jo : Nat) (hjs : js < 4) (hjo : jo < 4) (c10 : ¬ ((rs_I zr 7) js) < 0) (c13 : ¬ 0 ≤ ((rs_I zr 7) jo)) (hI : invR zr) : invR (va_up (rs_i zr) 0 1, rs_n zr, rs_I zr, rs_L zr) ∧ rW qm cI cJ cZ ad (va_up (rs_i zr) 0 1, rs_n zr, rs_I zr, rs_L zr) = [(qm, .inr (11, [.int 1, .int (rs_i zr 1), .ref (ad 2), .ref (ad 3), .ref (ad 4), .ref (ad 5), .int (rs_i zr 6), .ref (ad 7), .ref (ad 8), .ref (ad 9), .ref (ad 10), .int (nI (rs_n zr 0)), .ref (ad 12), .ref (ad 13), .ref (ad 14), .ref (ad 15), .ref (ad 16), .int (nI (rs_n zr 1)), .ref (ad 18), .ref (ad 19), .int (rs_i zr 20), .int (rs_i zr 21), .int (rs_i zr 22), .int (rs_i zr 23), .int (nI (rs_n zr 2)), .ref (ad 25), .ref (ad 26), .ref (ad 27), .ref (ad 28), .ref (ad 29), .ref (ad 30), .ref (ad 31), .ref (ad 32), .ref (ad 33), .int (nI (rs_n zr 3)), .ref (ad 35), .ref (ad 36), .ref (ad 37), .int (rs_i zr 38)])), rcI cI ad zr 2 48, rcI cI ad zr 3 48, rcI cI ad zr 4 48, rcI cI ad zr 5 48, rcI cI ad zr 7 4, rcI cI ad zr 8 4, rcI cI ad zr 9 192, rcI cI ad zr 10 48, rcI cI ad zr 12 12, rcI cI ad zr 13 12, rcI cI ad zr 14 12, rcI cI ad zr 15 12, rcI cI ad zr 16 12, rcI cI ad zr 18 8, rcJ cJ ad zr 19 8, rcI cI ad zr 25 40, rcI cI ad zr 26 40, rcI cI ad zr 27 40, rcI cZ ad zr 28 40, rcJ cJ ad zr 29 40, rcJ cJ ad zr 30 40, rcJ cJ ad zr 31 40, rcJ cJ ad zr 32 40, rcJ cJ ad zr 33 40, rcI cI ad zr 35 80, rcI cI ad zr 36 80, rcI cI ad zr 37 80] := by
  obtain ⟨⟨hn0, hn1, hn2, hn3⟩, hfar, hlh, hss, hsold, htk, hpk⟩ := id hI
  exact ⟨hI, by simp [rW, rcO, rcI, rcJ, rs_i, rs_n, rs_I, rs_L, va_up, upd]⟩
set_option maxHeartbeats 4000000 in
set_option maxRecDepth 100000 in
theorem M_copy (l : Launch) (dC : Nat → ClassId) (dI : Nat → Nat → Nat) (cI cJ cZ : ClassId) (sz : Nat) (qm : Nat) (ad : Nat → Nat) (zr : RS2) (k : Int32) (ix : Int32) (ot : Int32) (jx : Int32) (n : Int32) (hI : invR zr) : Met l yX11_copy wsX11_copy ({ frames := 3, cells := 0, slots := 0, locals := 90 }) (pw (dC, dI) [(cI, .int), (cJ, .long), (cZ, .boolean)] (rW qm cI cJ cZ ad zr) sz [.ref qm, .int k, .int ix, .int ot, .int jx, .int n]) (va_Qi (fun r (u : RS2) => invR u ∧ pR_copy zr k ix ot jx n r u) (fun u t => bw (dC, dI) [(cI, .int), (cJ, .long), (cZ, .boolean)] (va_A (rW qm cI cJ cZ ad zr) sz) (rW qm cI cJ cZ ad u) t) (va_A (rW qm cI cJ cZ ad zr) sz)) 0 0 (va_A (rW qm cI cJ cZ ad zr) sz) := by
  refine pw_met (cc := cX11_copy) (maxL := 7) (ret := (some .int)) (by decide) rfl (Nat.le_of_ble_eq_true rfl) ?_
  intro p e s m below meth c0 hx hb hr hml hown hlocks hnm hts hP0 hK hD0 hN hsz hA hS ls hl
  subst hsz
  have hP : va_P (dC, dI) vwCl [rcO qm ad zr, rcI cI ad zr 2 48, rcI cI ad zr 3 48, rcI cI ad zr 4 48, rcI cI ad zr 5 48, rcI cI ad zr 7 4, rcI cI ad zr 8 4, rcI cI ad zr 9 192, rcI cI ad zr 10 48, rcI cI ad zr 12 12, rcI cI ad zr 13 12, rcI cI ad zr 14 12, rcI cI ad zr 15 12, rcI cI ad zr 16 12, rcI cI ad zr 18 8, rcJ cJ ad zr 19 8, rcI cI ad zr 25 40, rcI cI ad zr 26 40, rcI cI ad zr 27 40, rcI cZ ad zr 28 40, rcJ cJ ad zr 29 40, rcJ cJ ad zr 30 40, rcJ cJ ad zr 31 40, rcJ cJ ad zr 32 40, rcJ cJ ad zr 33 40, rcI cI ad zr 35 80, rcI cI ad zr 36 80, rcI cI ad zr 37 80] s.heap := hP0
  have hD : va_D (va_A (rW qm cI cJ cZ ad zr) s.heap.size) [rcO qm ad zr, rcI cI ad zr 2 48, rcI cI ad zr 3 48, rcI cI ad zr 4 48, rcI cI ad zr 5 48, rcI cI ad zr 7 4, rcI cI ad zr 8 4, rcI cI ad zr 9 192, rcI cI ad zr 10 48, rcI cI ad zr 12 12, rcI cI ad zr 13 12, rcI cI ad zr 14 12, rcI cI ad zr 15 12, rcI cI ad zr 16 12, rcI cI ad zr 18 8, rcJ cJ ad zr 19 8, rcI cI ad zr 25 40, rcI cI ad zr 26 40, rcI cI ad zr 27 40, rcI cZ ad zr 28 40, rcJ cJ ad zr 29 40, rcJ cJ ad zr 30 40, rcJ cJ ad zr 31 40, rcJ cJ ad zr 32 40, rcJ cJ ad zr 33 40, rcI cI ad zr 35 80, rcI cI ad zr 36 80, rcI cI ad zr 37 80] := hD0
  obtain ⟨⟨hn0, hn1, hn2, hn3⟩, hfar, hlh, hss, hsold, htk, hpk⟩ := id hI
  have hl : lv_has ls 7 [(0, .ref qm), (1, .int k), (2, .int ix), (3, .int ot), (4, .int jx), (5, .int n)] := hl
  have hiX11 : ∀ w ∈ wsX110, w ∈ wsX11_copy := fun _ h => List.mem_cons_of_mem _ (List.mem_append_right _ (h))
  generalize hQ : MQ _ _ _ _ _ _ _ = Q
  refine lv_iload_n hx hb dX11_copy_0 rfl (lv_at hl 1 rfl) ?_
  refine vp_callSi (va_Run.run (va_runS (As := [.int k]) (rest := []) ⟨hx, hb, hml, hown, hts⟩ (c_X11_noSheet l k ) (va_cwS 1 hts gX11_copy_X11_noSheet rfl rfl rfl (by decide +kernel) ⟨Nat.le_of_ble_eq_true rfl, Nat.le_of_ble_eq_true rfl⟩) (p0_preS hN) rfl rfl hl.1 rfl (lv_room (Nat.le_of_ble_eq_true rfl)) dX11_copy_1 ⟨Nat.le_of_ble_eq_true rfl, Nat.le_of_ble_eq_true rfl⟩)) (fun r1 hr1 => ?_)
  have hr1 : r1 = if ¬ (0 ≤ k ∧ k ≤ 3) then 1 else 0 := hr1
  rcases ixd k 4 with hnojs | ⟨js, hjs, rfl⟩
  · have er1 : r1 = 1 := hr1.trans (if_pos (shNo hnojs))
    subst er1
    refine lv_if_ne (tgt := 14) hx hb dX11_copy_4 (by decide) (fun c2 => ?_) (fun c2 => ?_)
    · skip
      refine lv_aload_n hx hb dX11_copy_14 rfl (lv_at hl 0 rfl) ?_
      refine lv_iconst (v := (-1)) hx hb dX11_copy_15 (by decide) ?_
      have hPc := hP.sub (ws' := [rcO qm ad zr]) [0] rfl
      have hDc := hD.sub (ws' := [rcO qm ad zr]) [0] (by decide) rfl
      have hKc := hK.sub (tys' := []) [] rfl
      have hFc := va_free (wc := [rcO qm ad zr]) hD hS hA [0] rfl
      refine va_calli (va_runV (As := [.int (-1)]) (rest := []) ⟨hx, hb, hml, hown, hts⟩ (c_X11_refused l dC dI  _ qm (.int (rs_i zr 0)) (.int (rs_i zr 1)) (.ref (ad 2)) (.ref (ad 3)) (.ref (ad 4)) (.ref (ad 5)) (.int (rs_i zr 6)) (.ref (ad 7)) (.ref (ad 8)) (.ref (ad 9)) (.ref (ad 10)) (.int (nI (rs_n zr 0))) (.ref (ad 12)) (.ref (ad 13)) (.ref (ad 14)) (.ref (ad 15)) (.ref (ad 16)) (.int (nI (rs_n zr 1))) (.ref (ad 18)) (.ref (ad 19)) (.int (rs_i zr 20)) (.int (rs_i zr 21)) (.int (rs_i zr 22)) (.int (rs_i zr 23)) (.int (nI (rs_n zr 2))) (.ref (ad 25)) (.ref (ad 26)) (.ref (ad 27)) (.ref (ad 28)) (.ref (ad 29)) (.ref (ad 30)) (.ref (ad 31)) (.ref (ad 32)) (.ref (ad 33)) (.int (nI (rs_n zr 3))) (.ref (ad 35)) (.ref (ad 36)) (.ref (ad 37)) (.int (rs_i zr 38)) (-1) ) (cwV 1 hts gX11_copy_X11_refused rfl rfl rfl (by decide +kernel) ⟨Nat.le_of_ble_eq_true rfl, Nat.le_of_ble_eq_true rfl⟩) (pw_preV (va_recv hKc hPc (ci := 11) (q0 := 0) rfl rfl) hPc hKc hDc hN) rfl rfl hl.1 rfl (lv_room (Nat.le_of_ble_eq_true rfl)) dX11_copy_16 ⟨Nat.le_of_ble_eq_true rfl, Nat.le_of_ble_eq_true rfl⟩) hS (fun q _ h => hFc q h) hFc (fun r3 u t H1 locs ht hvm hw hB hz1 hk1 hS => ?_)
      have hr3 : r3 = (-1) := hw
      obtain ⟨hP1, hK1, hD1⟩ := hB
      rw [ht] at hP1
      obtain ⟨hP, hD⟩ := va_join (wr := [rcI cI ad zr 2 48, rcI cI ad zr 3 48, rcI cI ad zr 4 48, rcI cI ad zr 5 48, rcI cI ad zr 7 4, rcI cI ad zr 8 4, rcI cI ad zr 9 192, rcI cI ad zr 10 48, rcI cI ad zr 12 12, rcI cI ad zr 13 12, rcI cI ad zr 14 12, rcI cI ad zr 15 12, rcI cI ad zr 16 12, rcI cI ad zr 18 8, rcJ cJ ad zr 19 8, rcI cI ad zr 25 40, rcI cI ad zr 26 40, rcI cI ad zr 27 40, rcI cZ ad zr 28 40, rcJ cJ ad zr 29 40, rcJ cJ ad zr 30 40, rcJ cJ ad zr 31 40, rcJ cJ ad zr 32 40, rcJ cJ ad zr 33 40, rcI cI ad zr 35 80, rcI cI ad zr 36 80, rcI cI ad zr 37 80]) (w1 := [(qm, .inr (11, [.int 0, .int (rs_i zr 1), .ref (ad 2), .ref (ad 3), .ref (ad 4), .ref (ad 5), .int (rs_i zr 6), .ref (ad 7), .ref (ad 8), .ref (ad 9), .ref (ad 10), .int (nI (rs_n zr 0)), .ref (ad 12), .ref (ad 13), .ref (ad 14), .ref (ad 15), .ref (ad 16), .int (nI (rs_n zr 1)), .ref (ad 18), .ref (ad 19), .int (rs_i zr 20), .int (rs_i zr 21), .int (rs_i zr 22), .int (rs_i zr 23), .int (nI (rs_n zr 2)), .ref (ad 25), .ref (ad 26), .ref (ad 27), .ref (ad 28), .ref (ad 29), .ref (ad 30), .ref (ad 31), .ref (ad 32), .ref (ad 33), .int (nI (rs_n zr 3)), .ref (ad 35), .ref (ad 36), .ref (ad 37), .int (rs_i zr 38)]))]) hP hD [0] [1, 2, 3, 4, 5, 6, 7, 8, 9, 10, 11, 12, 13, 14, 15, 16, 17, 18, 19, 20, 21, 22, 23, 24, 25, 26, 27] rfl rfl (by decide) (by decide) hk1 hFc hP1 hD1
      generalize H1 = H at hP hS ⊢
      have hP : va_P (dC, dI) vwCl [rcI cI ad zr 2 48, rcI cI ad zr 3 48, rcI cI ad zr 4 48, rcI cI ad zr 5 48, rcI cI ad zr 7 4, rcI cI ad zr 8 4, rcI cI ad zr 9 192, rcI cI ad zr 10 48, rcI cI ad zr 12 12, rcI cI ad zr 13 12, rcI cI ad zr 14 12, rcI cI ad zr 15 12, rcI cI ad zr 16 12, rcI cI ad zr 18 8, rcJ cJ ad zr 19 8, rcI cI ad zr 25 40, rcI cI ad zr 26 40, rcI cI ad zr 27 40, rcI cZ ad zr 28 40, rcJ cJ ad zr 29 40, rcJ cJ ad zr 30 40, rcJ cJ ad zr 31 40, rcJ cJ ad zr 32 40, rcJ cJ ad zr 33 40, rcI cI ad zr 35 80, rcI cI ad zr 36 80, rcI cI ad zr 37 80, (qm, .inr (11, [.int 0, .int (rs_i zr 1), .ref (ad 2), .ref (ad 3), .ref (ad 4), .ref (ad 5), .int (rs_i zr 6), .ref (ad 7), .ref (ad 8), .ref (ad 9), .ref (ad 10), .int (nI (rs_n zr 0)), .ref (ad 12), .ref (ad 13), .ref (ad 14), .ref (ad 15), .ref (ad 16), .int (nI (rs_n zr 1)), .ref (ad 18), .ref (ad 19), .int (rs_i zr 20), .int (rs_i zr 21), .int (rs_i zr 22), .int (rs_i zr 23), .int (nI (rs_n zr 2)), .ref (ad 25), .ref (ad 26), .ref (ad 27), .ref (ad 28), .ref (ad 29), .ref (ad 30), .ref (ad 31), .ref (ad 32), .ref (ad 33), .int (nI (rs_n zr 3)), .ref (ad 35), .ref (ad 36), .ref (ad 37), .int (rs_i zr 38)]))] H := hP
      have hD : va_D _ [rcI cI ad zr 2 48, rcI cI ad zr 3 48, rcI cI ad zr 4 48, rcI cI ad zr 5 48, rcI cI ad zr 7 4, rcI cI ad zr 8 4, rcI cI ad zr 9 192, rcI cI ad zr 10 48, rcI cI ad zr 12 12, rcI cI ad zr 13 12, rcI cI ad zr 14 12, rcI cI ad zr 15 12, rcI cI ad zr 16 12, rcI cI ad zr 18 8, rcJ cJ ad zr 19 8, rcI cI ad zr 25 40, rcI cI ad zr 26 40, rcI cI ad zr 27 40, rcI cZ ad zr 28 40, rcJ cJ ad zr 29 40, rcJ cJ ad zr 30 40, rcJ cJ ad zr 31 40, rcJ cJ ad zr 32 40, rcJ cJ ad zr 33 40, rcI cI ad zr 35 80, rcI cI ad zr 36 80, rcI cI ad zr 37 80, (qm, .inr (11, [.int 0, .int (rs_i zr 1), .ref (ad 2), .ref (ad 3), .ref (ad 4), .ref (ad 5), .int (rs_i zr 6), .ref (ad 7), .ref (ad 8), .ref (ad 9), .ref (ad 10), .int (nI (rs_n zr 0)), .ref (ad 12), .ref (ad 13), .ref (ad 14), .ref (ad 15), .ref (ad 16), .int (nI (rs_n zr 1)), .ref (ad 18), .ref (ad 19), .int (rs_i zr 20), .int (rs_i zr 21), .int (rs_i zr 22), .int (rs_i zr 23), .int (nI (rs_n zr 2)), .ref (ad 25), .ref (ad 26), .ref (ad 27), .ref (ad 28), .ref (ad 29), .ref (ad 30), .ref (ad 31), .ref (ad 32), .ref (ad 33), .int (nI (rs_n zr 3)), .ref (ad 35), .ref (ad 36), .ref (ad 37), .int (rs_i zr 38)]))] := hD
      have hr3 := hr3.symm
      subst hr3
      refine W.eq (g2 := F0 m 19 ls [.int (-1)]) rfl ?_
      subst hQ
      have hlf := lr_copy_0 qm cI cJ cZ ad zr k ix ot jx n hnojs hI
      have hP9 : va_P (dC, dI) vwCl (rW qm cI cJ cZ ad (va_up (rs_i zr) 0 0, rs_n zr, rs_I zr, rs_L zr)) H := by rw [hlf.2]; exact hP.sub [27, 0, 1, 2, 3, 4, 5, 6, 7, 8, 9, 10, 11, 12, 13, 14, 15, 16, 17, 18, 19, 20, 21, 22, 23, 24, 25, 26] rfl
      have hD9 : va_D (va_A (rW qm cI cJ cZ ad zr) s.heap.size) (rW qm cI cJ cZ ad (va_up (rs_i zr) 0 0, rs_n zr, rs_I zr, rs_L zr)) := by rw [hlf.2]; exact hD.sub [27, 0, 1, 2, 3, 4, 5, 6, 7, 8, 9, 10, 11, 12, 13, 14, 15, 16, 17, 18, 19, 20, 21, 22, 23, 24, 25, 26] (by decide) rfl
      exact W.iret (v := (-1)) hx hb hr (fun t ht hW => ⟨⟨(-1), (va_up (rs_i zr) 0 0, rs_n zr, rs_I zr, rs_L zr), rfl, ⟨hlf.1, (Or.inl ⟨hnojs, rfl, rfl⟩)⟩, by rw [ht]; exact hP9, va_K.moved hW.alike hK, hD9⟩, hS.F ht⟩) hS.2.2 dX11_copy_19
    · exact absurd c2 (by decide)
  · have er1 : r1 = 0 := hr1.trans (if_neg (not_not_intro (shYes hjs)))
    subst er1
    refine lv_if_ne (tgt := 14) hx hb dX11_copy_4 (by decide) (fun c4 => ?_) (fun c4 => ?_)
    · exact absurd c4 (by decide)
    · skip
      refine lv_iload_n hx hb dX11_copy_7 rfl (lv_at hl 3 rfl) ?_
      refine vp_callSi (va_Run.run (va_runS (As := [.int ot]) (rest := []) ⟨hx, hb, hml, hown, hts⟩ (c_X11_noSheet l ot ) (va_cwS 1 hts gX11_copy_X11_noSheet rfl rfl rfl (by decide +kernel) ⟨Nat.le_of_ble_eq_true rfl, Nat.le_of_ble_eq_true rfl⟩) (p0_preS hN) rfl rfl hl.1 rfl (lv_room (Nat.le_of_ble_eq_true rfl)) dX11_copy_8 ⟨Nat.le_of_ble_eq_true rfl, Nat.le_of_ble_eq_true rfl⟩)) (fun r5 hr5 => ?_)
      have hr5 : r5 = if ¬ (0 ≤ ot ∧ ot ≤ 3) then 1 else 0 := hr5
      rcases ixd ot 4 with hnojo | ⟨jo, hjo, rfl⟩
      · have er5 : r5 = 1 := hr5.trans (if_pos (shNo hnojo))
        subst er5
        refine lv_if_eq (tgt := 20) hx hb dX11_copy_11 (by decide) (fun c6 => ?_) (fun c6 => ?_)
        · exact absurd c6 (by decide)
        · skip
          refine lv_aload_n hx hb dX11_copy_14 rfl (lv_at hl 0 rfl) ?_
          refine lv_iconst (v := (-1)) hx hb dX11_copy_15 (by decide) ?_
          have hPc := hP.sub (ws' := [rcO qm ad zr]) [0] rfl
          have hDc := hD.sub (ws' := [rcO qm ad zr]) [0] (by decide) rfl
          have hKc := hK.sub (tys' := []) [] rfl
          have hFc := va_free (wc := [rcO qm ad zr]) hD hS hA [0] rfl
          refine va_calli (va_runV (As := [.int (-1)]) (rest := []) ⟨hx, hb, hml, hown, hts⟩ (c_X11_refused l dC dI  _ qm (.int (rs_i zr 0)) (.int (rs_i zr 1)) (.ref (ad 2)) (.ref (ad 3)) (.ref (ad 4)) (.ref (ad 5)) (.int (rs_i zr 6)) (.ref (ad 7)) (.ref (ad 8)) (.ref (ad 9)) (.ref (ad 10)) (.int (nI (rs_n zr 0))) (.ref (ad 12)) (.ref (ad 13)) (.ref (ad 14)) (.ref (ad 15)) (.ref (ad 16)) (.int (nI (rs_n zr 1))) (.ref (ad 18)) (.ref (ad 19)) (.int (rs_i zr 20)) (.int (rs_i zr 21)) (.int (rs_i zr 22)) (.int (rs_i zr 23)) (.int (nI (rs_n zr 2))) (.ref (ad 25)) (.ref (ad 26)) (.ref (ad 27)) (.ref (ad 28)) (.ref (ad 29)) (.ref (ad 30)) (.ref (ad 31)) (.ref (ad 32)) (.ref (ad 33)) (.int (nI (rs_n zr 3))) (.ref (ad 35)) (.ref (ad 36)) (.ref (ad 37)) (.int (rs_i zr 38)) (-1) ) (cwV 1 hts gX11_copy_X11_refused rfl rfl rfl (by decide +kernel) ⟨Nat.le_of_ble_eq_true rfl, Nat.le_of_ble_eq_true rfl⟩) (pw_preV (va_recv hKc hPc (ci := 11) (q0 := 0) rfl rfl) hPc hKc hDc hN) rfl rfl hl.1 rfl (lv_room (Nat.le_of_ble_eq_true rfl)) dX11_copy_16 ⟨Nat.le_of_ble_eq_true rfl, Nat.le_of_ble_eq_true rfl⟩) hS (fun q _ h => hFc q h) hFc (fun r7 u t H1 locs ht hvm hw hB hz1 hk1 hS => ?_)
          have hr7 : r7 = (-1) := hw
          obtain ⟨hP1, hK1, hD1⟩ := hB
          rw [ht] at hP1
          obtain ⟨hP, hD⟩ := va_join (wr := [rcI cI ad zr 2 48, rcI cI ad zr 3 48, rcI cI ad zr 4 48, rcI cI ad zr 5 48, rcI cI ad zr 7 4, rcI cI ad zr 8 4, rcI cI ad zr 9 192, rcI cI ad zr 10 48, rcI cI ad zr 12 12, rcI cI ad zr 13 12, rcI cI ad zr 14 12, rcI cI ad zr 15 12, rcI cI ad zr 16 12, rcI cI ad zr 18 8, rcJ cJ ad zr 19 8, rcI cI ad zr 25 40, rcI cI ad zr 26 40, rcI cI ad zr 27 40, rcI cZ ad zr 28 40, rcJ cJ ad zr 29 40, rcJ cJ ad zr 30 40, rcJ cJ ad zr 31 40, rcJ cJ ad zr 32 40, rcJ cJ ad zr 33 40, rcI cI ad zr 35 80, rcI cI ad zr 36 80, rcI cI ad zr 37 80]) (w1 := [(qm, .inr (11, [.int 0, .int (rs_i zr 1), .ref (ad 2), .ref (ad 3), .ref (ad 4), .ref (ad 5), .int (rs_i zr 6), .ref (ad 7), .ref (ad 8), .ref (ad 9), .ref (ad 10), .int (nI (rs_n zr 0)), .ref (ad 12), .ref (ad 13), .ref (ad 14), .ref (ad 15), .ref (ad 16), .int (nI (rs_n zr 1)), .ref (ad 18), .ref (ad 19), .int (rs_i zr 20), .int (rs_i zr 21), .int (rs_i zr 22), .int (rs_i zr 23), .int (nI (rs_n zr 2)), .ref (ad 25), .ref (ad 26), .ref (ad 27), .ref (ad 28), .ref (ad 29), .ref (ad 30), .ref (ad 31), .ref (ad 32), .ref (ad 33), .int (nI (rs_n zr 3)), .ref (ad 35), .ref (ad 36), .ref (ad 37), .int (rs_i zr 38)]))]) hP hD [0] [1, 2, 3, 4, 5, 6, 7, 8, 9, 10, 11, 12, 13, 14, 15, 16, 17, 18, 19, 20, 21, 22, 23, 24, 25, 26, 27] rfl rfl (by decide) (by decide) hk1 hFc hP1 hD1
          generalize H1 = H at hP hS ⊢
          have hP : va_P (dC, dI) vwCl [rcI cI ad zr 2 48, rcI cI ad zr 3 48, rcI cI ad zr 4 48, rcI cI ad zr 5 48, rcI cI ad zr 7 4, rcI cI ad zr 8 4, rcI cI ad zr 9 192, rcI cI ad zr 10 48, rcI cI ad zr 12 12, rcI cI ad zr 13 12, rcI cI ad zr 14 12, rcI cI ad zr 15 12, rcI cI ad zr 16 12, rcI cI ad zr 18 8, rcJ cJ ad zr 19 8, rcI cI ad zr 25 40, rcI cI ad zr 26 40, rcI cI ad zr 27 40, rcI cZ ad zr 28 40, rcJ cJ ad zr 29 40, rcJ cJ ad zr 30 40, rcJ cJ ad zr 31 40, rcJ cJ ad zr 32 40, rcJ cJ ad zr 33 40, rcI cI ad zr 35 80, rcI cI ad zr 36 80, rcI cI ad zr 37 80, (qm, .inr (11, [.int 0, .int (rs_i zr 1), .ref (ad 2), .ref (ad 3), .ref (ad 4), .ref (ad 5), .int (rs_i zr 6), .ref (ad 7), .ref (ad 8), .ref (ad 9), .ref (ad 10), .int (nI (rs_n zr 0)), .ref (ad 12), .ref (ad 13), .ref (ad 14), .ref (ad 15), .ref (ad 16), .int (nI (rs_n zr 1)), .ref (ad 18), .ref (ad 19), .int (rs_i zr 20), .int (rs_i zr 21), .int (rs_i zr 22), .int (rs_i zr 23), .int (nI (rs_n zr 2)), .ref (ad 25), .ref (ad 26), .ref (ad 27), .ref (ad 28), .ref (ad 29), .ref (ad 30), .ref (ad 31), .ref (ad 32), .ref (ad 33), .int (nI (rs_n zr 3)), .ref (ad 35), .ref (ad 36), .ref (ad 37), .int (rs_i zr 38)]))] H := hP
          have hD : va_D _ [rcI cI ad zr 2 48, rcI cI ad zr 3 48, rcI cI ad zr 4 48, rcI cI ad zr 5 48, rcI cI ad zr 7 4, rcI cI ad zr 8 4, rcI cI ad zr 9 192, rcI cI ad zr 10 48, rcI cI ad zr 12 12, rcI cI ad zr 13 12, rcI cI ad zr 14 12, rcI cI ad zr 15 12, rcI cI ad zr 16 12, rcI cI ad zr 18 8, rcJ cJ ad zr 19 8, rcI cI ad zr 25 40, rcI cI ad zr 26 40, rcI cI ad zr 27 40, rcI cZ ad zr 28 40, rcJ cJ ad zr 29 40, rcJ cJ ad zr 30 40, rcJ cJ ad zr 31 40, rcJ cJ ad zr 32 40, rcJ cJ ad zr 33 40, rcI cI ad zr 35 80, rcI cI ad zr 36 80, rcI cI ad zr 37 80, (qm, .inr (11, [.int 0, .int (rs_i zr 1), .ref (ad 2), .ref (ad 3), .ref (ad 4), .ref (ad 5), .int (rs_i zr 6), .ref (ad 7), .ref (ad 8), .ref (ad 9), .ref (ad 10), .int (nI (rs_n zr 0)), .ref (ad 12), .ref (ad 13), .ref (ad 14), .ref (ad 15), .ref (ad 16), .int (nI (rs_n zr 1)), .ref (ad 18), .ref (ad 19), .int (rs_i zr 20), .int (rs_i zr 21), .int (rs_i zr 22), .int (rs_i zr 23), .int (nI (rs_n zr 2)), .ref (ad 25), .ref (ad 26), .ref (ad 27), .ref (ad 28), .ref (ad 29), .ref (ad 30), .ref (ad 31), .ref (ad 32), .ref (ad 33), .int (nI (rs_n zr 3)), .ref (ad 35), .ref (ad 36), .ref (ad 37), .int (rs_i zr 38)]))] := hD
          have hr7 := hr7.symm
          subst hr7
          refine W.eq (g2 := F0 m 19 ls [.int (-1)]) rfl ?_
          subst hQ
          have hlf := lr_copy_1 qm cI cJ cZ ad zr ix ot jx n js hjs hnojo hI
          have hP9 : va_P (dC, dI) vwCl (rW qm cI cJ cZ ad (va_up (rs_i zr) 0 0, rs_n zr, rs_I zr, rs_L zr)) H := by rw [hlf.2]; exact hP.sub [27, 0, 1, 2, 3, 4, 5, 6, 7, 8, 9, 10, 11, 12, 13, 14, 15, 16, 17, 18, 19, 20, 21, 22, 23, 24, 25, 26] rfl
          have hD9 : va_D (va_A (rW qm cI cJ cZ ad zr) s.heap.size) (rW qm cI cJ cZ ad (va_up (rs_i zr) 0 0, rs_n zr, rs_I zr, rs_L zr)) := by rw [hlf.2]; exact hD.sub [27, 0, 1, 2, 3, 4, 5, 6, 7, 8, 9, 10, 11, 12, 13, 14, 15, 16, 17, 18, 19, 20, 21, 22, 23, 24, 25, 26] (by decide) rfl
          exact W.iret (v := (-1)) hx hb hr (fun t ht hW => ⟨⟨(-1), (va_up (rs_i zr) 0 0, rs_n zr, rs_I zr, rs_L zr), rfl, ⟨hlf.1, (Or.inr (Or.inl ⟨js, rfl, hjs, hnojo, rfl, rfl⟩))⟩, by rw [ht]; exact hP9, va_K.moved hW.alike hK, hD9⟩, hS.F ht⟩) hS.2.2 dX11_copy_19
      · have er5 : r5 = 0 := hr5.trans (if_neg (not_not_intro (shYes hjo)))
        subst er5
        refine lv_if_eq (tgt := 20) hx hb dX11_copy_11 (by decide) (fun c8 => ?_) (fun c8 => ?_)
        · skip
          refine lv_aload_n hx hb dX11_copy_20 rfl (lv_at hl 0 rfl) ?_
          refine va_get (D := (dC, dI)) (ci := 11) (v := .ref (ad 7)) (C := RX11) (T := TX11) (N := 39) hx hb hts hiX11 hown hK hP 0 rfl rfl 7 (by decide) (hts (.fieldLink RX11 22 "TributePitchesModel" "sheetSize" "[I") (List.mem_of_getElem? (i := 1) rfl)) (fun _ h9 => h9) rfl dX11_copy_21 ?_
          refine lv_iload_n hx hb dX11_copy_24 rfl (lv_at hl 1 rfl) ?_
          refine va_iald hx hb hK hP 5 0 rfl rfl (vp_in_nI (by omega) (by omega)) dX11_copy_25 ?_
          refine lv_topi (fun v9 ev9 => ?_)
          have ev9 : v9 = (rs_I zr 7) js := by rw [ev9]; rw [nI_clamp (by omega)]
          subst ev9
          refine lv_if_lt (tgt := 38) hx hb dX11_copy_26 (by decide) (fun c10 => ?_) (fun c10 => ?_)
          · skip
            refine lv_aload_n hx hb dX11_copy_38 rfl (lv_at hl 0 rfl) ?_
            refine lv_iconst (v := 1) hx hb dX11_copy_39 (by decide) ?_
            have hPc := hP.sub (ws' := [rcO qm ad zr]) [0] rfl
            have hDc := hD.sub (ws' := [rcO qm ad zr]) [0] (by decide) rfl
            have hKc := hK.sub (tys' := []) [] rfl
            have hFc := va_free (wc := [rcO qm ad zr]) hD hS hA [0] rfl
            refine va_calli (va_runV (As := [.int 1]) (rest := []) ⟨hx, hb, hml, hown, hts⟩ (c_X11_failed l dC dI  _ qm (.int (rs_i zr 0)) (.int (rs_i zr 1)) (.ref (ad 2)) (.ref (ad 3)) (.ref (ad 4)) (.ref (ad 5)) (.int (rs_i zr 6)) (.ref (ad 7)) (.ref (ad 8)) (.ref (ad 9)) (.ref (ad 10)) (.int (nI (rs_n zr 0))) (.ref (ad 12)) (.ref (ad 13)) (.ref (ad 14)) (.ref (ad 15)) (.ref (ad 16)) (.int (nI (rs_n zr 1))) (.ref (ad 18)) (.ref (ad 19)) (.int (rs_i zr 20)) (.int (rs_i zr 21)) (.int (rs_i zr 22)) (.int (rs_i zr 23)) (.int (nI (rs_n zr 2))) (.ref (ad 25)) (.ref (ad 26)) (.ref (ad 27)) (.ref (ad 28)) (.ref (ad 29)) (.ref (ad 30)) (.ref (ad 31)) (.ref (ad 32)) (.ref (ad 33)) (.int (nI (rs_n zr 3))) (.ref (ad 35)) (.ref (ad 36)) (.ref (ad 37)) (.int (rs_i zr 38)) 1 ) (cwV 1 hts gX11_copy_X11_failed rfl rfl rfl (by decide +kernel) ⟨Nat.le_of_ble_eq_true rfl, Nat.le_of_ble_eq_true rfl⟩) (pw_preV (va_recv hKc hPc (ci := 11) (q0 := 0) rfl rfl) hPc hKc hDc hN) rfl rfl hl.1 rfl (lv_room (Nat.le_of_ble_eq_true rfl)) dX11_copy_40 ⟨Nat.le_of_ble_eq_true rfl, Nat.le_of_ble_eq_true rfl⟩) hS (fun q _ h => hFc q h) hFc (fun r11 u t H1 locs ht hvm hw hB hz1 hk1 hS => ?_)
            have hr11 : r11 = -10 - 1 := hw
            obtain ⟨hP1, hK1, hD1⟩ := hB
            rw [ht] at hP1
            obtain ⟨hP, hD⟩ := va_join (wr := [rcI cI ad zr 2 48, rcI cI ad zr 3 48, rcI cI ad zr 4 48, rcI cI ad zr 5 48, rcI cI ad zr 7 4, rcI cI ad zr 8 4, rcI cI ad zr 9 192, rcI cI ad zr 10 48, rcI cI ad zr 12 12, rcI cI ad zr 13 12, rcI cI ad zr 14 12, rcI cI ad zr 15 12, rcI cI ad zr 16 12, rcI cI ad zr 18 8, rcJ cJ ad zr 19 8, rcI cI ad zr 25 40, rcI cI ad zr 26 40, rcI cI ad zr 27 40, rcI cZ ad zr 28 40, rcJ cJ ad zr 29 40, rcJ cJ ad zr 30 40, rcJ cJ ad zr 31 40, rcJ cJ ad zr 32 40, rcJ cJ ad zr 33 40, rcI cI ad zr 35 80, rcI cI ad zr 36 80, rcI cI ad zr 37 80]) (w1 := [(qm, .inr (11, [.int 1, .int (rs_i zr 1), .ref (ad 2), .ref (ad 3), .ref (ad 4), .ref (ad 5), .int (rs_i zr 6), .ref (ad 7), .ref (ad 8), .ref (ad 9), .ref (ad 10), .int (nI (rs_n zr 0)), .ref (ad 12), .ref (ad 13), .ref (ad 14), .ref (ad 15), .ref (ad 16), .int (nI (rs_n zr 1)), .ref (ad 18), .ref (ad 19), .int (rs_i zr 20), .int (rs_i zr 21), .int (rs_i zr 22), .int (rs_i zr 23), .int (nI (rs_n zr 2)), .ref (ad 25), .ref (ad 26), .ref (ad 27), .ref (ad 28), .ref (ad 29), .ref (ad 30), .ref (ad 31), .ref (ad 32), .ref (ad 33), .int (nI (rs_n zr 3)), .ref (ad 35), .ref (ad 36), .ref (ad 37), .int (rs_i zr 38)]))]) hP hD [0] [1, 2, 3, 4, 5, 6, 7, 8, 9, 10, 11, 12, 13, 14, 15, 16, 17, 18, 19, 20, 21, 22, 23, 24, 25, 26, 27] rfl rfl (by decide) (by decide) hk1 hFc hP1 hD1
            generalize H1 = H at hP hS ⊢
            have hP : va_P (dC, dI) vwCl [rcI cI ad zr 2 48, rcI cI ad zr 3 48, rcI cI ad zr 4 48, rcI cI ad zr 5 48, rcI cI ad zr 7 4, rcI cI ad zr 8 4, rcI cI ad zr 9 192, rcI cI ad zr 10 48, rcI cI ad zr 12 12, rcI cI ad zr 13 12, rcI cI ad zr 14 12, rcI cI ad zr 15 12, rcI cI ad zr 16 12, rcI cI ad zr 18 8, rcJ cJ ad zr 19 8, rcI cI ad zr 25 40, rcI cI ad zr 26 40, rcI cI ad zr 27 40, rcI cZ ad zr 28 40, rcJ cJ ad zr 29 40, rcJ cJ ad zr 30 40, rcJ cJ ad zr 31 40, rcJ cJ ad zr 32 40, rcJ cJ ad zr 33 40, rcI cI ad zr 35 80, rcI cI ad zr 36 80, rcI cI ad zr 37 80, (qm, .inr (11, [.int 1, .int (rs_i zr 1), .ref (ad 2), .ref (ad 3), .ref (ad 4), .ref (ad 5), .int (rs_i zr 6), .ref (ad 7), .ref (ad 8), .ref (ad 9), .ref (ad 10), .int (nI (rs_n zr 0)), .ref (ad 12), .ref (ad 13), .ref (ad 14), .ref (ad 15), .ref (ad 16), .int (nI (rs_n zr 1)), .ref (ad 18), .ref (ad 19), .int (rs_i zr 20), .int (rs_i zr 21), .int (rs_i zr 22), .int (rs_i zr 23), .int (nI (rs_n zr 2)), .ref (ad 25), .ref (ad 26), .ref (ad 27), .ref (ad 28), .ref (ad 29), .ref (ad 30), .ref (ad 31), .ref (ad 32), .ref (ad 33), .int (nI (rs_n zr 3)), .ref (ad 35), .ref (ad 36), .ref (ad 37), .int (rs_i zr 38)]))] H := hP
            have hD : va_D _ [rcI cI ad zr 2 48, rcI cI ad zr 3 48, rcI cI ad zr 4 48, rcI cI ad zr 5 48, rcI cI ad zr 7 4, rcI cI ad zr 8 4, rcI cI ad zr 9 192, rcI cI ad zr 10 48, rcI cI ad zr 12 12, rcI cI ad zr 13 12, rcI cI ad zr 14 12, rcI cI ad zr 15 12, rcI cI ad zr 16 12, rcI cI ad zr 18 8, rcJ cJ ad zr 19 8, rcI cI ad zr 25 40, rcI cI ad zr 26 40, rcI cI ad zr 27 40, rcI cZ ad zr 28 40, rcJ cJ ad zr 29 40, rcJ cJ ad zr 30 40, rcJ cJ ad zr 31 40, rcJ cJ ad zr 32 40, rcJ cJ ad zr 33 40, rcI cI ad zr 35 80, rcI cI ad zr 36 80, rcI cI ad zr 37 80, (qm, .inr (11, [.int 1, .int (rs_i zr 1), .ref (ad 2), .ref (ad 3), .ref (ad 4), .ref (ad 5), .int (rs_i zr 6), .ref (ad 7), .ref (ad 8), .ref (ad 9), .ref (ad 10), .int (nI (rs_n zr 0)), .ref (ad 12), .ref (ad 13), .ref (ad 14), .ref (ad 15), .ref (ad 16), .int (nI (rs_n zr 1)), .ref (ad 18), .ref (ad 19), .int (rs_i zr 20), .int (rs_i zr 21), .int (rs_i zr 22), .int (rs_i zr 23), .int (nI (rs_n zr 2)), .ref (ad 25), .ref (ad 26), .ref (ad 27), .ref (ad 28), .ref (ad 29), .ref (ad 30), .ref (ad 31), .ref (ad 32), .ref (ad 33), .int (nI (rs_n zr 3)), .ref (ad 35), .ref (ad 36), .ref (ad 37), .int (rs_i zr 38)]))] := hD
            have hr11 := hr11.symm
            subst hr11
            refine W.eq (g2 := F0 m 43 ls [.int (-10 - 1)]) rfl ?_
            subst hQ
            have hlf := lr_copy_2 qm cI cJ cZ ad zr ix jx n js jo hjs hjo c10 hI
            have hP9 : va_P (dC, dI) vwCl (rW qm cI cJ cZ ad (va_up (rs_i zr) 0 1, rs_n zr, rs_I zr, rs_L zr)) H := by rw [hlf.2]; exact hP.sub [27, 0, 1, 2, 3, 4, 5, 6, 7, 8, 9, 10, 11, 12, 13, 14, 15, 16, 17, 18, 19, 20, 21, 22, 23, 24, 25, 26] rfl
            have hD9 : va_D (va_A (rW qm cI cJ cZ ad zr) s.heap.size) (rW qm cI cJ cZ ad (va_up (rs_i zr) 0 1, rs_n zr, rs_I zr, rs_L zr)) := by rw [hlf.2]; exact hD.sub [27, 0, 1, 2, 3, 4, 5, 6, 7, 8, 9, 10, 11, 12, 13, 14, 15, 16, 17, 18, 19, 20, 21, 22, 23, 24, 25, 26] (by decide) rfl
            exact W.iret (v := -10 - 1) hx hb hr (fun t ht hW => ⟨⟨-10 - 1, (va_up (rs_i zr) 0 1, rs_n zr, rs_I zr, rs_L zr), rfl, ⟨hlf.1, (Or.inr (Or.inr (Or.inl ⟨js, rfl, hjs, jo, rfl, hjo, c10, rfl, rfl⟩)))⟩, by rw [ht]; exact hP9, va_K.moved hW.alike hK, hD9⟩, hS.F ht⟩) hS.2.2 dX11_copy_43
          · skip
            refine lv_aload_n hx hb dX11_copy_29 rfl (lv_at hl 0 rfl) ?_
            refine va_get (D := (dC, dI)) (ci := 11) (v := .ref (ad 7)) (C := RX11) (T := TX11) (N := 39) hx hb hts hiX11 hown hK hP 0 rfl rfl 7 (by decide) (hts (.fieldLink RX11 22 "TributePitchesModel" "sheetSize" "[I") (List.mem_of_getElem? (i := 1) rfl)) (fun _ h9 => h9) rfl dX11_copy_30 ?_
            refine lv_iload_n hx hb dX11_copy_33 rfl (lv_at hl 3 rfl) ?_
            refine va_iald hx hb hK hP 5 0 rfl rfl (vp_in_nI (by omega) (by omega)) dX11_copy_34 ?_
            refine lv_topi (fun v12 ev12 => ?_)
            have ev12 : v12 = (rs_I zr 7) jo := by rw [ev12]; rw [nI_clamp (by omega)]
            subst ev12
            refine lv_if_ge (tgt := 44) hx hb dX11_copy_35 (by decide) (fun c13 => ?_) (fun c13 => ?_)
            · skip
              refine lv_aload_n hx hb dX11_copy_44 rfl (lv_at hl 0 rfl) ?_
              refine va_get (D := (dC, dI)) (ci := 11) (v := .ref (ad 8)) (C := RX11) (T := TX11) (N := 39) hx hb hts hiX11 hown hK hP 0 rfl rfl 8 (by decide) (hts (.fieldLink RX11 25 "TributePitchesModel" "sheetLane" "[I") (List.mem_of_getElem? (i := 2) rfl)) (fun _ h9 => h9) rfl dX11_copy_45 ?_
              refine lv_iload_n hx hb dX11_copy_48 rfl (lv_at hl 1 rfl) ?_
              refine va_iald hx hb hK hP 6 0 rfl rfl (vp_in_nI (by omega) (by omega)) dX11_copy_49 ?_
              refine lv_topi (fun v14 ev14 => ?_)
              have ev14 : v14 = (rs_I zr 8) js := by rw [ev14]; rw [nI_clamp (by omega)]
              subst ev14
              refine lv_aload_n hx hb dX11_copy_50 rfl (lv_at hl 0 rfl) ?_
              refine va_get (D := (dC, dI)) (ci := 11) (v := .ref (ad 8)) (C := RX11) (T := TX11) (N := 39) hx hb hts hiX11 hown hK hP 0 rfl rfl 8 (by decide) (hts (.fieldLink RX11 25 "TributePitchesModel" "sheetLane" "[I") (List.mem_of_getElem? (i := 2) rfl)) (fun _ h9 => h9) rfl dX11_copy_51 ?_
              refine lv_iload_n hx hb dX11_copy_54 rfl (lv_at hl 3 rfl) ?_
              refine va_iald hx hb hK hP 6 0 rfl rfl (vp_in_nI (by omega) (by omega)) dX11_copy_55 ?_
              refine lv_topi (fun v15 ev15 => ?_)
              have ev15 : v15 = (rs_I zr 8) jo := by rw [ev15]; rw [nI_clamp (by omega)]
              subst ev15
              refine lv_icmp_eq (tgt := 65) hx hb dX11_copy_56 (by decide) (fun c16 => ?_) (fun c16 => ?_)
              · skip
                refine lv_iload_n hx hb dX11_copy_65 rfl (lv_at hl 2 rfl) ?_
                refine lv_iload hx hb dX11_copy_66 (lv_at hl 5 rfl) ?_
                refine lv_aload_n hx hb dX11_copy_68 rfl (lv_at hl 0 rfl) ?_
                refine va_get (D := (dC, dI)) (ci := 11) (v := .ref (ad 7)) (C := RX11) (T := TX11) (N := 39) hx hb hts hiX11 hown hK hP 0 rfl rfl 7 (by decide) (hts (.fieldLink RX11 22 "TributePitchesModel" "sheetSize" "[I") (List.mem_of_getElem? (i := 1) rfl)) (fun _ h9 => h9) rfl dX11_copy_69 ?_
                refine lv_iload_n hx hb dX11_copy_72 rfl (lv_at hl 1 rfl) ?_
                refine va_iald hx hb hK hP 5 0 rfl rfl (vp_in_nI (by omega) (by omega)) dX11_copy_73 ?_
                refine lv_topi (fun v17 ev17 => ?_)
                have ev17 : v17 = (rs_I zr 7) js := by rw [ev17]; rw [nI_clamp (by omega)]
                subst ev17
                refine vp_callSi (va_Run.run (va_runS (As := [.int ix, .int n, .int ((rs_I zr 7) js)]) (rest := []) ⟨hx, hb, hml, hown, hts⟩ (r_isBeyond l ix n ((rs_I zr 7) js) ) (va_cwS 3 hts gX11_copy_X11_isBeyond rfl rfl rfl (by decide +kernel) ⟨Nat.le_of_ble_eq_true rfl, Nat.le_of_ble_eq_true rfl⟩) (p0_preS hN) rfl rfl hl.1 rfl (lv_room (Nat.le_of_ble_eq_true rfl)) dX11_copy_74 ⟨Nat.le_of_ble_eq_true rfl, Nat.le_of_ble_eq_true rfl⟩)) (fun r18 hr18 => ?_)
                have hr18 : r18 = if ¬ (0 ≤ ix ∧ 0 ≤ n ∧ ix.toInt64 + n.toInt64 ≤ ((rs_I zr 7) js).toInt64) then 1 else 0 := hr18
                refine lv_if_ne (tgt := 96) hx hb dX11_copy_77 (by decide) (fun c19 => ?_) (fun c19 => ?_)
                · skip
                  have c19 := (fa_bool_prop hr18).2.mp c19
                  refine lv_aload_n hx hb dX11_copy_96 rfl (lv_at hl 0 rfl) ?_
                  refine lv_iconst (v := 3) hx hb dX11_copy_97 (by decide) ?_
                  have hPc := hP.sub (ws' := [rcO qm ad zr]) [0] rfl
                  have hDc := hD.sub (ws' := [rcO qm ad zr]) [0] (by decide) rfl
                  have hKc := hK.sub (tys' := []) [] rfl
                  have hFc := va_free (wc := [rcO qm ad zr]) hD hS hA [0] rfl
                  refine va_calli (va_runV (As := [.int 3]) (rest := []) ⟨hx, hb, hml, hown, hts⟩ (c_X11_failed l dC dI  _ qm (.int (rs_i zr 0)) (.int (rs_i zr 1)) (.ref (ad 2)) (.ref (ad 3)) (.ref (ad 4)) (.ref (ad 5)) (.int (rs_i zr 6)) (.ref (ad 7)) (.ref (ad 8)) (.ref (ad 9)) (.ref (ad 10)) (.int (nI (rs_n zr 0))) (.ref (ad 12)) (.ref (ad 13)) (.ref (ad 14)) (.ref (ad 15)) (.ref (ad 16)) (.int (nI (rs_n zr 1))) (.ref (ad 18)) (.ref (ad 19)) (.int (rs_i zr 20)) (.int (rs_i zr 21)) (.int (rs_i zr 22)) (.int (rs_i zr 23)) (.int (nI (rs_n zr 2))) (.ref (ad 25)) (.ref (ad 26)) (.ref (ad 27)) (.ref (ad 28)) (.ref (ad 29)) (.ref (ad 30)) (.ref (ad 31)) (.ref (ad 32)) (.ref (ad 33)) (.int (nI (rs_n zr 3))) (.ref (ad 35)) (.ref (ad 36)) (.ref (ad 37)) (.int (rs_i zr 38)) 3 ) (cwV 1 hts gX11_copy_X11_failed rfl rfl rfl (by decide +kernel) ⟨Nat.le_of_ble_eq_true rfl, Nat.le_of_ble_eq_true rfl⟩) (pw_preV (va_recv hKc hPc (ci := 11) (q0 := 0) rfl rfl) hPc hKc hDc hN) rfl rfl hl.1 rfl (lv_room (Nat.le_of_ble_eq_true rfl)) dX11_copy_98 ⟨Nat.le_of_ble_eq_true rfl, Nat.le_of_ble_eq_true rfl⟩) hS (fun q _ h => hFc q h) hFc (fun r20 u t H1 locs ht hvm hw hB hz1 hk1 hS => ?_)
                  have hr20 : r20 = -10 - 3 := hw
                  obtain ⟨hP1, hK1, hD1⟩ := hB
                  rw [ht] at hP1
                  obtain ⟨hP, hD⟩ := va_join (wr := [rcI cI ad zr 2 48, rcI cI ad zr 3 48, rcI cI ad zr 4 48, rcI cI ad zr 5 48, rcI cI ad zr 7 4, rcI cI ad zr 8 4, rcI cI ad zr 9 192, rcI cI ad zr 10 48, rcI cI ad zr 12 12, rcI cI ad zr 13 12, rcI cI ad zr 14 12, rcI cI ad zr 15 12, rcI cI ad zr 16 12, rcI cI ad zr 18 8, rcJ cJ ad zr 19 8, rcI cI ad zr 25 40, rcI cI ad zr 26 40, rcI cI ad zr 27 40, rcI cZ ad zr 28 40, rcJ cJ ad zr 29 40, rcJ cJ ad zr 30 40, rcJ cJ ad zr 31 40, rcJ cJ ad zr 32 40, rcJ cJ ad zr 33 40, rcI cI ad zr 35 80, rcI cI ad zr 36 80, rcI cI ad zr 37 80]) (w1 := [(qm, .inr (11, [.int 3, .int (rs_i zr 1), .ref (ad 2), .ref (ad 3), .ref (ad 4), .ref (ad 5), .int (rs_i zr 6), .ref (ad 7), .ref (ad 8), .ref (ad 9), .ref (ad 10), .int (nI (rs_n zr 0)), .ref (ad 12), .ref (ad 13), .ref (ad 14), .ref (ad 15), .ref (ad 16), .int (nI (rs_n zr 1)), .ref (ad 18), .ref (ad 19), .int (rs_i zr 20), .int (rs_i zr 21), .int (rs_i zr 22), .int (rs_i zr 23), .int (nI (rs_n zr 2)), .ref (ad 25), .ref (ad 26), .ref (ad 27), .ref (ad 28), .ref (ad 29), .ref (ad 30), .ref (ad 31), .ref (ad 32), .ref (ad 33), .int (nI (rs_n zr 3)), .ref (ad 35), .ref (ad 36), .ref (ad 37), .int (rs_i zr 38)]))]) hP hD [0] [1, 2, 3, 4, 5, 6, 7, 8, 9, 10, 11, 12, 13, 14, 15, 16, 17, 18, 19, 20, 21, 22, 23, 24, 25, 26, 27] rfl rfl (by decide) (by decide) hk1 hFc hP1 hD1
                  generalize H1 = H at hP hS ⊢
                  have hP : va_P (dC, dI) vwCl [rcI cI ad zr 2 48, rcI cI ad zr 3 48, rcI cI ad zr 4 48, rcI cI ad zr 5 48, rcI cI ad zr 7 4, rcI cI ad zr 8 4, rcI cI ad zr 9 192, rcI cI ad zr 10 48, rcI cI ad zr 12 12, rcI cI ad zr 13 12, rcI cI ad zr 14 12, rcI cI ad zr 15 12, rcI cI ad zr 16 12, rcI cI ad zr 18 8, rcJ cJ ad zr 19 8, rcI cI ad zr 25 40, rcI cI ad zr 26 40, rcI cI ad zr 27 40, rcI cZ ad zr 28 40, rcJ cJ ad zr 29 40, rcJ cJ ad zr 30 40, rcJ cJ ad zr 31 40, rcJ cJ ad zr 32 40, rcJ cJ ad zr 33 40, rcI cI ad zr 35 80, rcI cI ad zr 36 80, rcI cI ad zr 37 80, (qm, .inr (11, [.int 3, .int (rs_i zr 1), .ref (ad 2), .ref (ad 3), .ref (ad 4), .ref (ad 5), .int (rs_i zr 6), .ref (ad 7), .ref (ad 8), .ref (ad 9), .ref (ad 10), .int (nI (rs_n zr 0)), .ref (ad 12), .ref (ad 13), .ref (ad 14), .ref (ad 15), .ref (ad 16), .int (nI (rs_n zr 1)), .ref (ad 18), .ref (ad 19), .int (rs_i zr 20), .int (rs_i zr 21), .int (rs_i zr 22), .int (rs_i zr 23), .int (nI (rs_n zr 2)), .ref (ad 25), .ref (ad 26), .ref (ad 27), .ref (ad 28), .ref (ad 29), .ref (ad 30), .ref (ad 31), .ref (ad 32), .ref (ad 33), .int (nI (rs_n zr 3)), .ref (ad 35), .ref (ad 36), .ref (ad 37), .int (rs_i zr 38)]))] H := hP
                  have hD : va_D _ [rcI cI ad zr 2 48, rcI cI ad zr 3 48, rcI cI ad zr 4 48, rcI cI ad zr 5 48, rcI cI ad zr 7 4, rcI cI ad zr 8 4, rcI cI ad zr 9 192, rcI cI ad zr 10 48, rcI cI ad zr 12 12, rcI cI ad zr 13 12, rcI cI ad zr 14 12, rcI cI ad zr 15 12, rcI cI ad zr 16 12, rcI cI ad zr 18 8, rcJ cJ ad zr 19 8, rcI cI ad zr 25 40, rcI cI ad zr 26 40, rcI cI ad zr 27 40, rcI cZ ad zr 28 40, rcJ cJ ad zr 29 40, rcJ cJ ad zr 30 40, rcJ cJ ad zr 31 40, rcJ cJ ad zr 32 40, rcJ cJ ad zr 33 40, rcI cI ad zr 35 80, rcI cI ad zr 36 80, rcI cI ad zr 37 80, (qm, .inr (11, [.int 3, .int (rs_i zr 1), .ref (ad 2), .ref (ad 3), .ref (ad 4), .ref (ad 5), .int (rs_i zr 6), .ref (ad 7), .ref (ad 8), .ref (ad 9), .ref (ad 10), .int (nI (rs_n zr 0)), .ref (ad 12), .ref (ad 13), .ref (ad 14), .ref (ad 15), .ref (ad 16), .int (nI (rs_n zr 1)), .ref (ad 18), .ref (ad 19), .int (rs_i zr 20), .int (rs_i zr 21), .int (rs_i zr 22), .int (rs_i zr 23), .int (nI (rs_n zr 2)), .ref (ad 25), .ref (ad 26), .ref (ad 27), .ref (ad 28), .ref (ad 29), .ref (ad 30), .ref (ad 31), .ref (ad 32), .ref (ad 33), .int (nI (rs_n zr 3)), .ref (ad 35), .ref (ad 36), .ref (ad 37), .int (rs_i zr 38)]))] := hD
                  have hr20 := hr20.symm
                  subst hr20
                  refine W.eq (g2 := F0 m 101 ls [.int (-10 - 3)]) rfl ?_
                  subst hQ
                  have hlf := lr_copy_3 qm cI cJ cZ ad zr ix jx n js jo hjs hjo c10 c13 c16 c19 hI
                  have hP9 : va_P (dC, dI) vwCl (rW qm cI cJ cZ ad (va_up (rs_i zr) 0 3, rs_n zr, rs_I zr, rs_L zr)) H := by rw [hlf.2]; exact hP.sub [27, 0, 1, 2, 3, 4, 5, 6, 7, 8, 9, 10, 11, 12, 13, 14, 15, 16, 17, 18, 19, 20, 21, 22, 23, 24, 25, 26] rfl
                  have hD9 : va_D (va_A (rW qm cI cJ cZ ad zr) s.heap.size) (rW qm cI cJ cZ ad (va_up (rs_i zr) 0 3, rs_n zr, rs_I zr, rs_L zr)) := by rw [hlf.2]; exact hD.sub [27, 0, 1, 2, 3, 4, 5, 6, 7, 8, 9, 10, 11, 12, 13, 14, 15, 16, 17, 18, 19, 20, 21, 22, 23, 24, 25, 26] (by decide) rfl
                  exact W.iret (v := -10 - 3) hx hb hr (fun t ht hW => ⟨⟨-10 - 3, (va_up (rs_i zr) 0 3, rs_n zr, rs_I zr, rs_L zr), rfl, ⟨hlf.1, (Or.inr (Or.inr (Or.inr (Or.inl ⟨js, rfl, hjs, jo, rfl, hjo, c10, c13, c16, c19, rfl, rfl⟩))))⟩, by rw [ht]; exact hP9, va_K.moved hW.alike hK, hD9⟩, hS.F ht⟩) hS.2.2 dX11_copy_101
                · skip
                  have c19 := (fa_bool_prop hr18).1.mp c19
                  have c19 := Decidable.not_not.mp c19
                  refine lv_iload hx hb dX11_copy_80 (lv_at hl 4 rfl) ?_
                  refine lv_iload hx hb dX11_copy_82 (lv_at hl 5 rfl) ?_
                  refine lv_aload_n hx hb dX11_copy_84 rfl (lv_at hl 0 rfl) ?_
                  refine va_get (D := (dC, dI)) (ci := 11) (v := .ref (ad 7)) (C := RX11) (T := TX11) (N := 39) hx hb hts hiX11 hown hK hP 0 rfl rfl 7 (by decide) (hts (.fieldLink RX11 22 "TributePitchesModel" "sheetSize" "[I") (List.mem_of_getElem? (i := 1) rfl)) (fun _ h9 => h9) rfl dX11_copy_85 ?_
                  refine lv_iload_n hx hb dX11_copy_88 rfl (lv_at hl 3 rfl) ?_
                  refine va_iald hx hb hK hP 5 0 rfl rfl (vp_in_nI (by omega) (by omega)) dX11_copy_89 ?_
                  refine lv_topi (fun v21 ev21 => ?_)
                  have ev21 : v21 = (rs_I zr 7) jo := by rw [ev21]; rw [nI_clamp (by omega)]
                  subst ev21
                  refine vp_callSi (va_Run.run (va_runS (As := [.int jx, .int n, .int ((rs_I zr 7) jo)]) (rest := []) ⟨hx, hb, hml, hown, hts⟩ (r_isBeyond l jx n ((rs_I zr 7) jo) ) (va_cwS 3 hts gX11_copy_X11_isBeyond rfl rfl rfl (by decide +kernel) ⟨Nat.le_of_ble_eq_true rfl, Nat.le_of_ble_eq_true rfl⟩) (p0_preS hN) rfl rfl hl.1 rfl (lv_room (Nat.le_of_ble_eq_true rfl)) dX11_copy_90 ⟨Nat.le_of_ble_eq_true rfl, Nat.le_of_ble_eq_true rfl⟩)) (fun r22 hr22 => ?_)
                  have hr22 : r22 = if ¬ (0 ≤ jx ∧ 0 ≤ n ∧ jx.toInt64 + n.toInt64 ≤ ((rs_I zr 7) jo).toInt64) then 1 else 0 := hr22
                  refine lv_if_eq (tgt := 102) hx hb dX11_copy_93 (by decide) (fun c23 => ?_) (fun c23 => ?_)
                  · skip
                    have c23 := (fa_bool_prop hr22).1.mp c23
                    have c23 := Decidable.not_not.mp c23
                    obtain ⟨ia, nn, e1, e2, hian, hia2⟩ := hold_nat c19 (hss js hjs).2
                    obtain ⟨ja, nn2, e3, e4, hjan, hja2⟩ := hold_nat c23 (hss jo hjo).2
                    have e5 : nn2 = nn := (nI_eq (by omega) (by omega)).mp (e4.symm.trans e2)
                    subst e5
                    subst e1
                    subst e2
                    subst e3
                    refine lv_iconst (v := 0) hx hb dX11_copy_102 (by decide) ?_
                    refine lv_istore (lv' := [(6, .int 0), (0, .ref qm), (1, .int (nI js)), (2, .int (nI ia)), (3, .int (nI jo)), (4, .int (nI ja)), (5, .int (nI nn2))]) hx hb dX11_copy_103 hl (by decide) rfl (fun ls hl => ?_)
                    have loop105 : ∀ (ni105 i105 : Nat) (H : Heap) (locs : List Loc) (ls : Array Slot), i105 ≤ nn2 → nn2 + 1 ≤ i105 + ni105 → va_P (dC, dI) vwCl [rcO qm ad zr, rcI cI ad zr 2 48, rcI cI ad zr 3 48, rcI cI ad zr 4 48, rcI cI ad zr 5 48, rcI cI ad zr 7 4, rcI cI ad zr 8 4, rcI cI ad zr 9 192, (ad 10, .inl (cI, 48, .inl (cpf (rs_I zr 9) (48 * js + ia) (rs_I zr 10) i105))), rcI cI ad zr 12 12, rcI cI ad zr 13 12, rcI cI ad zr 14 12, rcI cI ad zr 15 12, rcI cI ad zr 16 12, rcI cI ad zr 18 8, rcJ cJ ad zr 19 8, rcI cI ad zr 25 40, rcI cI ad zr 26 40, rcI cI ad zr 27 40, rcI cZ ad zr 28 40, rcJ cJ ad zr 29 40, rcJ cJ ad zr 30 40, rcJ cJ ad zr 31 40, rcJ cJ ad zr 32 40, rcJ cJ ad zr 33 40, rcI cI ad zr 35 80, rcI cI ad zr 36 80, rcI cI ad zr 37 80] H → va_D (va_A [rcO qm ad zr, rcI cI ad zr 2 48, rcI cI ad zr 3 48, rcI cI ad zr 4 48, rcI cI ad zr 5 48, rcI cI ad zr 7 4, rcI cI ad zr 8 4, rcI cI ad zr 9 192, rcI cI ad zr 10 48, rcI cI ad zr 12 12, rcI cI ad zr 13 12, rcI cI ad zr 14 12, rcI cI ad zr 15 12, rcI cI ad zr 16 12, rcI cI ad zr 18 8, rcJ cJ ad zr 19 8, rcI cI ad zr 25 40, rcI cI ad zr 26 40, rcI cI ad zr 27 40, rcI cZ ad zr 28 40, rcJ cJ ad zr 29 40, rcJ cJ ad zr 30 40, rcJ cJ ad zr 31 40, rcJ cJ ad zr 32 40, rcJ cJ ad zr 33 40, rcI cI ad zr 35 80, rcI cI ad zr 36 80, rcI cI ad zr 37 80] s.heap.size) [rcO qm ad zr, rcI cI ad zr 2 48, rcI cI ad zr 3 48, rcI cI ad zr 4 48, rcI cI ad zr 5 48, rcI cI ad zr 7 4, rcI cI ad zr 8 4, rcI cI ad zr 9 192, (ad 10, .inl (cI, 48, .inl (cpf (rs_I zr 9) (48 * js + ia) (rs_I zr 10) i105))), rcI cI ad zr 12 12, rcI cI ad zr 13 12, rcI cI ad zr 14 12, rcI cI ad zr 15 12, rcI cI ad zr 16 12, rcI cI ad zr 18 8, rcJ cJ ad zr 19 8, rcI cI ad zr 25 40, rcI cI ad zr 26 40, rcI cI ad zr 27 40, rcI cZ ad zr 28 40, rcJ cJ ad zr 29 40, rcJ cJ ad zr 30 40, rcJ cJ ad zr 31 40, rcJ cJ ad zr 32 40, rcJ cJ ad zr 33 40, rcI cI ad zr 35 80, rcI cI ad zr 36 80, rcI cI ad zr 37 80] → va_S (va_A [rcO qm ad zr, rcI cI ad zr 2 48, rcI cI ad zr 3 48, rcI cI ad zr 4 48, rcI cI ad zr 5 48, rcI cI ad zr 7 4, rcI cI ad zr 8 4, rcI cI ad zr 9 192, rcI cI ad zr 10 48, rcI cI ad zr 12 12, rcI cI ad zr 13 12, rcI cI ad zr 14 12, rcI cI ad zr 15 12, rcI cI ad zr 16 12, rcI cI ad zr 18 8, rcJ cJ ad zr 19 8, rcI cI ad zr 25 40, rcI cI ad zr 26 40, rcI cI ad zr 27 40, rcI cZ ad zr 28 40, rcJ cJ ad zr 29 40, rcJ cJ ad zr 30 40, rcJ cJ ad zr 31 40, rcJ cJ ad zr 32 40, rcJ cJ ad zr 33 40, rcI cI ad zr 35 80, rcI cI ad zr 36 80, rcI cI ad zr 37 80] s.heap.size) s.heap H locs → lv_has ls 7 [(6, .int (nI i105)), (0, .ref qm), (1, .int (nI js)), (2, .int (nI ia)), (3, .int (nI jo)), (4, .int (nI ja)), (5, .int (nI nn2))] → W p l e ({ frames := 3, cells := 0, slots := 0, locals := 90 } : Room) s m ([.ref qm, .int (nI js), .int (nI ia), .int (nI jo), .int (nI ja), .int (nI nn2)] : List Value).toArray below meth c0 H locs 0 0 Q (F0 m 105 ls []) := by
                      intro ni105
                      induction ni105 with
                      | zero =>
                        intro i105  H locs ls h1 h2
                        exact absurd h2 (by omega)
                      | succ ni105 ihi105 =>
                        intro i105  H locs ls hlei105 hni105  hP hD hS hl
                        refine lv_iload hx hb dX11_copy_105 (lv_at hl 0 rfl) ?_
                        refine lv_iload hx hb dX11_copy_107 (lv_at hl 6 rfl) ?_
                        refine lv_icmp_ge (tgt := 139) hx hb dX11_copy_109 (by decide) (fun c24 => ?_) (fun c24 => ?_)
                        · skip
                          have hei105 : nn2 = i105 := (by have q := (nI_leI (a := nn2) (b := i105) (by omega) (by omega)).mp c24; omega)
                          subst hei105
                          refine lv_iconst (v := 0) hx hb dX11_copy_139 (by decide) ?_
                          refine lv_istore (lv' := [(6, .int 0), (0, .ref qm), (1, .int (nI js)), (2, .int (nI ia)), (3, .int (nI jo)), (4, .int (nI ja)), (5, .int (nI nn2))]) hx hb dX11_copy_140 hl (by decide) rfl (fun ls hl => ?_)
                          have loop142 : ∀ (ni142 i142 : Nat) (H : Heap) (locs : List Loc) (ls : Array Slot), i142 ≤ nn2 → nn2 + 1 ≤ i142 + ni142 → va_P (dC, dI) vwCl [rcO qm ad zr, rcI cI ad zr 2 48, rcI cI ad zr 3 48, rcI cI ad zr 4 48, rcI cI ad zr 5 48, rcI cI ad zr 7 4, rcI cI ad zr 8 4, (ad 9, .inl (cI, 192, .inl (cpt (cpf (rs_I zr 9) (48 * js + ia) (rs_I zr 10) nn2) (48 * jo + ja) (rs_I zr 9) i142))), (ad 10, .inl (cI, 48, .inl (cpf (rs_I zr 9) (48 * js + ia) (rs_I zr 10) nn2))), rcI cI ad zr 12 12, rcI cI ad zr 13 12, rcI cI ad zr 14 12, rcI cI ad zr 15 12, rcI cI ad zr 16 12, rcI cI ad zr 18 8, rcJ cJ ad zr 19 8, rcI cI ad zr 25 40, rcI cI ad zr 26 40, rcI cI ad zr 27 40, rcI cZ ad zr 28 40, rcJ cJ ad zr 29 40, rcJ cJ ad zr 30 40, rcJ cJ ad zr 31 40, rcJ cJ ad zr 32 40, rcJ cJ ad zr 33 40, rcI cI ad zr 35 80, rcI cI ad zr 36 80, rcI cI ad zr 37 80] H → va_D (va_A [rcO qm ad zr, rcI cI ad zr 2 48, rcI cI ad zr 3 48, rcI cI ad zr 4 48, rcI cI ad zr 5 48, rcI cI ad zr 7 4, rcI cI ad zr 8 4, rcI cI ad zr 9 192, rcI cI ad zr 10 48, rcI cI ad zr 12 12, rcI cI ad zr 13 12, rcI cI ad zr 14 12, rcI cI ad zr 15 12, rcI cI ad zr 16 12, rcI cI ad zr 18 8, rcJ cJ ad zr 19 8, rcI cI ad zr 25 40, rcI cI ad zr 26 40, rcI cI ad zr 27 40, rcI cZ ad zr 28 40, rcJ cJ ad zr 29 40, rcJ cJ ad zr 30 40, rcJ cJ ad zr 31 40, rcJ cJ ad zr 32 40, rcJ cJ ad zr 33 40, rcI cI ad zr 35 80, rcI cI ad zr 36 80, rcI cI ad zr 37 80] s.heap.size) [rcO qm ad zr, rcI cI ad zr 2 48, rcI cI ad zr 3 48, rcI cI ad zr 4 48, rcI cI ad zr 5 48, rcI cI ad zr 7 4, rcI cI ad zr 8 4, (ad 9, .inl (cI, 192, .inl (cpt (cpf (rs_I zr 9) (48 * js + ia) (rs_I zr 10) nn2) (48 * jo + ja) (rs_I zr 9) i142))), (ad 10, .inl (cI, 48, .inl (cpf (rs_I zr 9) (48 * js + ia) (rs_I zr 10) nn2))), rcI cI ad zr 12 12, rcI cI ad zr 13 12, rcI cI ad zr 14 12, rcI cI ad zr 15 12, rcI cI ad zr 16 12, rcI cI ad zr 18 8, rcJ cJ ad zr 19 8, rcI cI ad zr 25 40, rcI cI ad zr 26 40, rcI cI ad zr 27 40, rcI cZ ad zr 28 40, rcJ cJ ad zr 29 40, rcJ cJ ad zr 30 40, rcJ cJ ad zr 31 40, rcJ cJ ad zr 32 40, rcJ cJ ad zr 33 40, rcI cI ad zr 35 80, rcI cI ad zr 36 80, rcI cI ad zr 37 80] → va_S (va_A [rcO qm ad zr, rcI cI ad zr 2 48, rcI cI ad zr 3 48, rcI cI ad zr 4 48, rcI cI ad zr 5 48, rcI cI ad zr 7 4, rcI cI ad zr 8 4, rcI cI ad zr 9 192, rcI cI ad zr 10 48, rcI cI ad zr 12 12, rcI cI ad zr 13 12, rcI cI ad zr 14 12, rcI cI ad zr 15 12, rcI cI ad zr 16 12, rcI cI ad zr 18 8, rcJ cJ ad zr 19 8, rcI cI ad zr 25 40, rcI cI ad zr 26 40, rcI cI ad zr 27 40, rcI cZ ad zr 28 40, rcJ cJ ad zr 29 40, rcJ cJ ad zr 30 40, rcJ cJ ad zr 31 40, rcJ cJ ad zr 32 40, rcJ cJ ad zr 33 40, rcI cI ad zr 35 80, rcI cI ad zr 36 80, rcI cI ad zr 37 80] s.heap.size) s.heap H locs → lv_has ls 7 [(6, .int (nI i142)), (0, .ref qm), (1, .int (nI js)), (2, .int (nI ia)), (3, .int (nI jo)), (4, .int (nI ja)), (5, .int (nI nn2))] → W p l e ({ frames := 3, cells := 0, slots := 0, locals := 90 } : Room) s m ([.ref qm, .int (nI js), .int (nI ia), .int (nI jo), .int (nI ja), .int (nI nn2)] : List Value).toArray below meth c0 H locs 0 0 Q (F0 m 142 ls []) := by
                            intro ni142
                            induction ni142 with
                            | zero =>
                              intro i142  H locs ls h1 h2
                              exact absurd h2 (by omega)
                            | succ ni142 ihi142 =>
                              intro i142  H locs ls hlei142 hni142  hP hD hS hl
                              refine lv_iload hx hb dX11_copy_142 (lv_at hl 0 rfl) ?_
                              refine lv_iload hx hb dX11_copy_144 (lv_at hl 6 rfl) ?_
                              refine lv_icmp_ge (tgt := 177) hx hb dX11_copy_146 (by decide) (fun c25 => ?_) (fun c25 => ?_)
                              · skip
                                have hei142 : nn2 = i142 := (by have q := (nI_leI (a := nn2) (b := i142) (by omega) (by omega)).mp c25; omega)
                                subst hei142
                                refine lv_aload_n hx hb dX11_copy_177 rfl (lv_at hl 1 rfl) ?_
                                refine lv_iload hx hb dX11_copy_178 (lv_at hl 6 rfl) ?_
                                have hPc := hP.sub (ws' := [rcO qm ad zr]) [0] rfl
                                have hDc := hD.sub (ws' := [rcO qm ad zr]) [0] (by decide) rfl
                                have hKc := hK.sub (tys' := []) [] rfl
                                have hFc := va_free (wc := [rcO qm ad zr]) hD hS hA [0] rfl
                                refine va_calli (va_runV (As := [.int (nI nn2)]) (rest := []) ⟨hx, hb, hml, hown, hts⟩ (c_X11_refused l dC dI  _ qm (.int (rs_i zr 0)) (.int (rs_i zr 1)) (.ref (ad 2)) (.ref (ad 3)) (.ref (ad 4)) (.ref (ad 5)) (.int (rs_i zr 6)) (.ref (ad 7)) (.ref (ad 8)) (.ref (ad 9)) (.ref (ad 10)) (.int (nI (rs_n zr 0))) (.ref (ad 12)) (.ref (ad 13)) (.ref (ad 14)) (.ref (ad 15)) (.ref (ad 16)) (.int (nI (rs_n zr 1))) (.ref (ad 18)) (.ref (ad 19)) (.int (rs_i zr 20)) (.int (rs_i zr 21)) (.int (rs_i zr 22)) (.int (rs_i zr 23)) (.int (nI (rs_n zr 2))) (.ref (ad 25)) (.ref (ad 26)) (.ref (ad 27)) (.ref (ad 28)) (.ref (ad 29)) (.ref (ad 30)) (.ref (ad 31)) (.ref (ad 32)) (.ref (ad 33)) (.int (nI (rs_n zr 3))) (.ref (ad 35)) (.ref (ad 36)) (.ref (ad 37)) (.int (rs_i zr 38)) (nI nn2) ) (cwV 1 hts gX11_copy_X11_refused rfl rfl rfl (by decide +kernel) ⟨Nat.le_of_ble_eq_true rfl, Nat.le_of_ble_eq_true rfl⟩) (pw_preV (va_recv hKc hPc (ci := 11) (q0 := 0) rfl rfl) hPc hKc hDc hN) rfl rfl hl.1 rfl (lv_room (Nat.le_of_ble_eq_true rfl)) dX11_copy_180 ⟨Nat.le_of_ble_eq_true rfl, Nat.le_of_ble_eq_true rfl⟩) hS (fun q _ h => hFc q h) hFc (fun r26 u t H1 locs ht hvm hw hB hz1 hk1 hS => ?_)
                                have hr26 : r26 = (nI nn2) := hw
                                obtain ⟨hP1, hK1, hD1⟩ := hB
                                rw [ht] at hP1
                                obtain ⟨hP, hD⟩ := va_join (wr := [rcI cI ad zr 2 48, rcI cI ad zr 3 48, rcI cI ad zr 4 48, rcI cI ad zr 5 48, rcI cI ad zr 7 4, rcI cI ad zr 8 4, (ad 9, .inl (cI, 192, .inl (cpt (cpf (rs_I zr 9) (48 * js + ia) (rs_I zr 10) nn2) (48 * jo + ja) (rs_I zr 9) nn2))), (ad 10, .inl (cI, 48, .inl (cpf (rs_I zr 9) (48 * js + ia) (rs_I zr 10) nn2))), rcI cI ad zr 12 12, rcI cI ad zr 13 12, rcI cI ad zr 14 12, rcI cI ad zr 15 12, rcI cI ad zr 16 12, rcI cI ad zr 18 8, rcJ cJ ad zr 19 8, rcI cI ad zr 25 40, rcI cI ad zr 26 40, rcI cI ad zr 27 40, rcI cZ ad zr 28 40, rcJ cJ ad zr 29 40, rcJ cJ ad zr 30 40, rcJ cJ ad zr 31 40, rcJ cJ ad zr 32 40, rcJ cJ ad zr 33 40, rcI cI ad zr 35 80, rcI cI ad zr 36 80, rcI cI ad zr 37 80]) (w1 := [(qm, .inr (11, [.int 0, .int (rs_i zr 1), .ref (ad 2), .ref (ad 3), .ref (ad 4), .ref (ad 5), .int (rs_i zr 6), .ref (ad 7), .ref (ad 8), .ref (ad 9), .ref (ad 10), .int (nI (rs_n zr 0)), .ref (ad 12), .ref (ad 13), .ref (ad 14), .ref (ad 15), .ref (ad 16), .int (nI (rs_n zr 1)), .ref (ad 18), .ref (ad 19), .int (rs_i zr 20), .int (rs_i zr 21), .int (rs_i zr 22), .int (rs_i zr 23), .int (nI (rs_n zr 2)), .ref (ad 25), .ref (ad 26), .ref (ad 27), .ref (ad 28), .ref (ad 29), .ref (ad 30), .ref (ad 31), .ref (ad 32), .ref (ad 33), .int (nI (rs_n zr 3)), .ref (ad 35), .ref (ad 36), .ref (ad 37), .int (rs_i zr 38)]))]) hP hD [0] [1, 2, 3, 4, 5, 6, 7, 8, 9, 10, 11, 12, 13, 14, 15, 16, 17, 18, 19, 20, 21, 22, 23, 24, 25, 26, 27] rfl rfl (by decide) (by decide) hk1 hFc hP1 hD1
                                generalize H1 = H at hP hS ⊢
                                have hP : va_P (dC, dI) vwCl [rcI cI ad zr 2 48, rcI cI ad zr 3 48, rcI cI ad zr 4 48, rcI cI ad zr 5 48, rcI cI ad zr 7 4, rcI cI ad zr 8 4, (ad 9, .inl (cI, 192, .inl (cpt (cpf (rs_I zr 9) (48 * js + ia) (rs_I zr 10) nn2) (48 * jo + ja) (rs_I zr 9) nn2))), (ad 10, .inl (cI, 48, .inl (cpf (rs_I zr 9) (48 * js + ia) (rs_I zr 10) nn2))), rcI cI ad zr 12 12, rcI cI ad zr 13 12, rcI cI ad zr 14 12, rcI cI ad zr 15 12, rcI cI ad zr 16 12, rcI cI ad zr 18 8, rcJ cJ ad zr 19 8, rcI cI ad zr 25 40, rcI cI ad zr 26 40, rcI cI ad zr 27 40, rcI cZ ad zr 28 40, rcJ cJ ad zr 29 40, rcJ cJ ad zr 30 40, rcJ cJ ad zr 31 40, rcJ cJ ad zr 32 40, rcJ cJ ad zr 33 40, rcI cI ad zr 35 80, rcI cI ad zr 36 80, rcI cI ad zr 37 80, (qm, .inr (11, [.int 0, .int (rs_i zr 1), .ref (ad 2), .ref (ad 3), .ref (ad 4), .ref (ad 5), .int (rs_i zr 6), .ref (ad 7), .ref (ad 8), .ref (ad 9), .ref (ad 10), .int (nI (rs_n zr 0)), .ref (ad 12), .ref (ad 13), .ref (ad 14), .ref (ad 15), .ref (ad 16), .int (nI (rs_n zr 1)), .ref (ad 18), .ref (ad 19), .int (rs_i zr 20), .int (rs_i zr 21), .int (rs_i zr 22), .int (rs_i zr 23), .int (nI (rs_n zr 2)), .ref (ad 25), .ref (ad 26), .ref (ad 27), .ref (ad 28), .ref (ad 29), .ref (ad 30), .ref (ad 31), .ref (ad 32), .ref (ad 33), .int (nI (rs_n zr 3)), .ref (ad 35), .ref (ad 36), .ref (ad 37), .int (rs_i zr 38)]))] H := hP
                                have hD : va_D _ [rcI cI ad zr 2 48, rcI cI ad zr 3 48, rcI cI ad zr 4 48, rcI cI ad zr 5 48, rcI cI ad zr 7 4, rcI cI ad zr 8 4, (ad 9, .inl (cI, 192, .inl (cpt (cpf (rs_I zr 9) (48 * js + ia) (rs_I zr 10) nn2) (48 * jo + ja) (rs_I zr 9) nn2))), (ad 10, .inl (cI, 48, .inl (cpf (rs_I zr 9) (48 * js + ia) (rs_I zr 10) nn2))), rcI cI ad zr 12 12, rcI cI ad zr 13 12, rcI cI ad zr 14 12, rcI cI ad zr 15 12, rcI cI ad zr 16 12, rcI cI ad zr 18 8, rcJ cJ ad zr 19 8, rcI cI ad zr 25 40, rcI cI ad zr 26 40, rcI cI ad zr 27 40, rcI cZ ad zr 28 40, rcJ cJ ad zr 29 40, rcJ cJ ad zr 30 40, rcJ cJ ad zr 31 40, rcJ cJ ad zr 32 40, rcJ cJ ad zr 33 40, rcI cI ad zr 35 80, rcI cI ad zr 36 80, rcI cI ad zr 37 80, (qm, .inr (11, [.int 0, .int (rs_i zr 1), .ref (ad 2), .ref (ad 3), .ref (ad 4), .ref (ad 5), .int (rs_i zr 6), .ref (ad 7), .ref (ad 8), .ref (ad 9), .ref (ad 10), .int (nI (rs_n zr 0)), .ref (ad 12), .ref (ad 13), .ref (ad 14), .ref (ad 15), .ref (ad 16), .int (nI (rs_n zr 1)), .ref (ad 18), .ref (ad 19), .int (rs_i zr 20), .int (rs_i zr 21), .int (rs_i zr 22), .int (rs_i zr 23), .int (nI (rs_n zr 2)), .ref (ad 25), .ref (ad 26), .ref (ad 27), .ref (ad 28), .ref (ad 29), .ref (ad 30), .ref (ad 31), .ref (ad 32), .ref (ad 33), .int (nI (rs_n zr 3)), .ref (ad 35), .ref (ad 36), .ref (ad 37), .int (rs_i zr 38)]))] := hD
                                have hr26 := hr26.symm
                                subst hr26
                                refine W.eq (g2 := F0 m 183 ls [.int (nI nn2)]) rfl ?_
                                subst hQ
                                have hlf := lr_copy_4 qm cI cJ cZ ad zr js jo ia ja nn2 hjs hjo c10 c13 c16 hian hjan hia2 hja2 hI
                                have hP9 : va_P (dC, dI) vwCl (rW qm cI cJ cZ ad (va_up (rs_i zr) 0 0, rs_n zr, va_up (va_up (rs_I zr) 9 (cpt (cpf (rs_I zr 9) (48 * js + ia) (rs_I zr 10) nn2) (48 * jo + ja) (rs_I zr 9) nn2)) 10 (cpf (rs_I zr 9) (48 * js + ia) (rs_I zr 10) nn2), rs_L zr)) H := by rw [hlf.2]; exact hP.sub [27, 0, 1, 2, 3, 4, 5, 6, 7, 8, 9, 10, 11, 12, 13, 14, 15, 16, 17, 18, 19, 20, 21, 22, 23, 24, 25, 26] rfl
                                have hD9 : va_D (va_A (rW qm cI cJ cZ ad zr) s.heap.size) (rW qm cI cJ cZ ad (va_up (rs_i zr) 0 0, rs_n zr, va_up (va_up (rs_I zr) 9 (cpt (cpf (rs_I zr 9) (48 * js + ia) (rs_I zr 10) nn2) (48 * jo + ja) (rs_I zr 9) nn2)) 10 (cpf (rs_I zr 9) (48 * js + ia) (rs_I zr 10) nn2), rs_L zr)) := by rw [hlf.2]; exact hD.sub [27, 0, 1, 2, 3, 4, 5, 6, 7, 8, 9, 10, 11, 12, 13, 14, 15, 16, 17, 18, 19, 20, 21, 22, 23, 24, 25, 26] (by decide) rfl
                                exact W.iret (v := (nI nn2)) hx hb hr (fun t ht hW => ⟨⟨(nI nn2), (va_up (rs_i zr) 0 0, rs_n zr, va_up (va_up (rs_I zr) 9 (cpt (cpf (rs_I zr 9) (48 * js + ia) (rs_I zr 10) nn2) (48 * jo + ja) (rs_I zr 9) nn2)) 10 (cpf (rs_I zr 9) (48 * js + ia) (rs_I zr 10) nn2), rs_L zr), rfl, ⟨hlf.1, (Or.inr (Or.inr (Or.inr (Or.inr (Or.inl ⟨js, rfl, hjs, jo, rfl, hjo, c10, c13, c16, ia, ja, nn2, rfl, rfl, rfl, hian, hjan, hia2, hja2, rfl, rfl⟩)))))⟩, by rw [ht]; exact hP9, va_K.moved hW.alike hK, hD9⟩, hS.F ht⟩) hS.2.2 dX11_copy_183
                              · skip
                                have hlti142 : i142 < nn2 := (Nat.lt_or_ge i142 nn2).elim id (fun q => absurd (nI_le q (by omega)) c25)
                                refine lv_aload_n hx hb dX11_copy_149 rfl (lv_at hl 1 rfl) ?_
                                refine va_get (D := (dC, dI)) (ci := 11) (v := .ref (ad 9)) (C := RX11) (T := TX11) (N := 39) hx hb hts hiX11 hown hK hP 0 rfl rfl 9 (by decide) (hts (.fieldLink RX11 28 "TributePitchesModel" "sheet" "[I") (List.mem_of_getElem? (i := 4) rfl)) (fun _ h9 => h9) rfl dX11_copy_150 ?_
                                refine lv_bipush (v := 48) hx hb dX11_copy_153 (by decide) ?_
                                refine lv_iload_n hx hb dX11_copy_155 rfl (lv_at hl 4 rfl) ?_
                                refine lv_imul hx hb dX11_copy_156 ?_
                                refine lv_iload hx hb dX11_copy_157 (lv_at hl 5 rfl) ?_
                                refine lv_iadd hx hb dX11_copy_159 ?_
                                refine lv_topi (fun vx evx => ?_)
                                have evx : vx = nI (48 * jo + ja) := by rw [evx]; exact shix jo ja
                                subst evx
                                refine lv_iload hx hb dX11_copy_160 (lv_at hl 0 rfl) ?_
                                refine lv_iadd hx hb dX11_copy_162 ?_
                                refine lv_topi (fun vy evy => ?_)
                                have evy : vy = nI (48 * jo + ja + i142) := by rw [evy]; exact nI_add _ _
                                subst evy
                                refine lv_aload_n hx hb dX11_copy_163 rfl (lv_at hl 1 rfl) ?_
                                refine va_get (D := (dC, dI)) (ci := 11) (v := .ref (ad 10)) (C := RX11) (T := TX11) (N := 39) hx hb hts hiX11 hown hK hP 0 rfl rfl 10 (by decide) (hts (.fieldLink RX11 31 "TributePitchesModel" "hands" "[I") (List.mem_of_getElem? (i := 3) rfl)) (fun _ h9 => h9) rfl dX11_copy_164 ?_
                                refine lv_iload hx hb dX11_copy_167 (lv_at hl 0 rfl) ?_
                                refine va_iald hx hb hK hP 8 0 rfl rfl (vp_in_nI (by omega) (by omega)) dX11_copy_169 ?_
                                refine lv_topi (fun v27 ev27 => ?_)
                                have ev27 : v27 = (cpf (rs_I zr 9) (48 * js + ia) (rs_I zr 10) nn2) i142 := by rw [ev27]; rw [nI_clamp (by omega)]
                                subst ev27
                                refine va_iast hx hb hK hP hD hS 7 0 rfl rfl (vp_in_nI (by omega) (by omega)) dX11_copy_170 (fun H locs hP hD hS => ?_)
                                rw [nI_clamp (n := (48 * jo + ja + i142)) (by omega)] at hP hD
                                have hP : va_P (dC, dI) vwCl [rcO qm ad zr, rcI cI ad zr 2 48, rcI cI ad zr 3 48, rcI cI ad zr 4 48, rcI cI ad zr 5 48, rcI cI ad zr 7 4, rcI cI ad zr 8 4, (ad 9, .inl (cI, 192, .inl (upd (cpt (cpf (rs_I zr 9) (48 * js + ia) (rs_I zr 10) nn2) (48 * jo + ja) (rs_I zr 9) i142) (48 * jo + ja + i142) ((cpf (rs_I zr 9) (48 * js + ia) (rs_I zr 10) nn2) i142)))), (ad 10, .inl (cI, 48, .inl (cpf (rs_I zr 9) (48 * js + ia) (rs_I zr 10) nn2))), rcI cI ad zr 12 12, rcI cI ad zr 13 12, rcI cI ad zr 14 12, rcI cI ad zr 15 12, rcI cI ad zr 16 12, rcI cI ad zr 18 8, rcJ cJ ad zr 19 8, rcI cI ad zr 25 40, rcI cI ad zr 26 40, rcI cI ad zr 27 40, rcI cZ ad zr 28 40, rcJ cJ ad zr 29 40, rcJ cJ ad zr 30 40, rcJ cJ ad zr 31 40, rcJ cJ ad zr 32 40, rcJ cJ ad zr 33 40, rcI cI ad zr 35 80, rcI cI ad zr 36 80, rcI cI ad zr 37 80] H := hP
                                have hD : va_D _ [rcO qm ad zr, rcI cI ad zr 2 48, rcI cI ad zr 3 48, rcI cI ad zr 4 48, rcI cI ad zr 5 48, rcI cI ad zr 7 4, rcI cI ad zr 8 4, (ad 9, .inl (cI, 192, .inl (upd (cpt (cpf (rs_I zr 9) (48 * js + ia) (rs_I zr 10) nn2) (48 * jo + ja) (rs_I zr 9) i142) (48 * jo + ja + i142) ((cpf (rs_I zr 9) (48 * js + ia) (rs_I zr 10) nn2) i142)))), (ad 10, .inl (cI, 48, .inl (cpf (rs_I zr 9) (48 * js + ia) (rs_I zr 10) nn2))), rcI cI ad zr 12 12, rcI cI ad zr 13 12, rcI cI ad zr 14 12, rcI cI ad zr 15 12, rcI cI ad zr 16 12, rcI cI ad zr 18 8, rcJ cJ ad zr 19 8, rcI cI ad zr 25 40, rcI cI ad zr 26 40, rcI cI ad zr 27 40, rcI cZ ad zr 28 40, rcJ cJ ad zr 29 40, rcJ cJ ad zr 30 40, rcJ cJ ad zr 31 40, rcJ cJ ad zr 32 40, rcJ cJ ad zr 33 40, rcI cI ad zr 35 80, rcI cI ad zr 36 80, rcI cI ad zr 37 80] := hD
                                refine lv_iinc (v := nI (i142 + 1)) (lv' := [(6, .int (nI (i142 + 1))), (0, .ref qm), (1, .int (nI js)), (2, .int (nI ia)), (3, .int (nI jo)), (4, .int (nI ja)), (5, .int (nI nn2))]) hx hb dX11_copy_171 hl (k := 0) rfl (nI_1 i142) (by decide) rfl (fun ls hl => ?_)
                                refine lv_goto (tgt := 142) hx hb dX11_copy_174 (by decide) ?_
                                exact ihi142 (i142 + 1)  _ _ ls (by omega) (by omega)  (hP.sub [0, 1, 2, 3, 4, 5, 6, 7, 8, 9, 10, 11, 12, 13, 14, 15, 16, 17, 18, 19, 20, 21, 22, 23, 24, 25, 26, 27] rfl) (hD.sub [0, 1, 2, 3, 4, 5, 6, 7, 8, 9, 10, 11, 12, 13, 14, 15, 16, 17, 18, 19, 20, 21, 22, 23, 24, 25, 26, 27] (by decide) rfl) hS (lv_sub hl [0, 1, 2, 3, 4, 5, 6] rfl)
                          exact loop142 (nn2 + 1 - 0) 0  _ _ ls (by omega) (by omega)  hP hD hS (lv_sub hl [0, 1, 2, 3, 4, 5, 6] rfl)
                        · skip
                          have hlti105 : i105 < nn2 := (Nat.lt_or_ge i105 nn2).elim id (fun q => absurd (nI_le q (by omega)) c24)
                          refine lv_aload_n hx hb dX11_copy_112 rfl (lv_at hl 1 rfl) ?_
                          refine va_get (D := (dC, dI)) (ci := 11) (v := .ref (ad 10)) (C := RX11) (T := TX11) (N := 39) hx hb hts hiX11 hown hK hP 0 rfl rfl 10 (by decide) (hts (.fieldLink RX11 31 "TributePitchesModel" "hands" "[I") (List.mem_of_getElem? (i := 3) rfl)) (fun _ h9 => h9) rfl dX11_copy_113 ?_
                          refine lv_iload hx hb dX11_copy_116 (lv_at hl 0 rfl) ?_
                          refine lv_aload_n hx hb dX11_copy_118 rfl (lv_at hl 1 rfl) ?_
                          refine va_get (D := (dC, dI)) (ci := 11) (v := .ref (ad 9)) (C := RX11) (T := TX11) (N := 39) hx hb hts hiX11 hown hK hP 0 rfl rfl 9 (by decide) (hts (.fieldLink RX11 28 "TributePitchesModel" "sheet" "[I") (List.mem_of_getElem? (i := 4) rfl)) (fun _ h9 => h9) rfl dX11_copy_119 ?_
                          refine lv_bipush (v := 48) hx hb dX11_copy_122 (by decide) ?_
                          refine lv_iload_n hx hb dX11_copy_124 rfl (lv_at hl 2 rfl) ?_
                          refine lv_imul hx hb dX11_copy_125 ?_
                          refine lv_iload_n hx hb dX11_copy_126 rfl (lv_at hl 3 rfl) ?_
                          refine lv_iadd hx hb dX11_copy_127 ?_
                          refine lv_topi (fun vx evx => ?_)
                          have evx : vx = nI (48 * js + ia) := by rw [evx]; exact shix js ia
                          subst evx
                          refine lv_iload hx hb dX11_copy_128 (lv_at hl 0 rfl) ?_
                          refine lv_iadd hx hb dX11_copy_130 ?_
                          refine lv_topi (fun vy evy => ?_)
                          have evy : vy = nI (48 * js + ia + i105) := by rw [evy]; exact nI_add _ _
                          subst evy
                          refine va_iald hx hb hK hP 7 0 rfl rfl (vp_in_nI (by omega) (by omega)) dX11_copy_131 ?_
                          refine lv_topi (fun v28 ev28 => ?_)
                          have ev28 : v28 = (rs_I zr 9) (48 * js + ia + i105) := by rw [ev28]; rw [nI_clamp (by omega)]
                          subst ev28
                          refine va_iast hx hb hK hP hD hS 8 0 rfl rfl (vp_in_nI (by omega) (by omega)) dX11_copy_132 (fun H locs hP hD hS => ?_)
                          rw [nI_clamp (n := i105) (by omega)] at hP hD
                          have hP : va_P (dC, dI) vwCl [rcO qm ad zr, rcI cI ad zr 2 48, rcI cI ad zr 3 48, rcI cI ad zr 4 48, rcI cI ad zr 5 48, rcI cI ad zr 7 4, rcI cI ad zr 8 4, rcI cI ad zr 9 192, (ad 10, .inl (cI, 48, .inl (upd (cpf (rs_I zr 9) (48 * js + ia) (rs_I zr 10) i105) i105 ((rs_I zr 9) (48 * js + ia + i105))))), rcI cI ad zr 12 12, rcI cI ad zr 13 12, rcI cI ad zr 14 12, rcI cI ad zr 15 12, rcI cI ad zr 16 12, rcI cI ad zr 18 8, rcJ cJ ad zr 19 8, rcI cI ad zr 25 40, rcI cI ad zr 26 40, rcI cI ad zr 27 40, rcI cZ ad zr 28 40, rcJ cJ ad zr 29 40, rcJ cJ ad zr 30 40, rcJ cJ ad zr 31 40, rcJ cJ ad zr 32 40, rcJ cJ ad zr 33 40, rcI cI ad zr 35 80, rcI cI ad zr 36 80, rcI cI ad zr 37 80] H := hP
                          have hD : va_D _ [rcO qm ad zr, rcI cI ad zr 2 48, rcI cI ad zr 3 48, rcI cI ad zr 4 48, rcI cI ad zr 5 48, rcI cI ad zr 7 4, rcI cI ad zr 8 4, rcI cI ad zr 9 192, (ad 10, .inl (cI, 48, .inl (upd (cpf (rs_I zr 9) (48 * js + ia) (rs_I zr 10) i105) i105 ((rs_I zr 9) (48 * js + ia + i105))))), rcI cI ad zr 12 12, rcI cI ad zr 13 12, rcI cI ad zr 14 12, rcI cI ad zr 15 12, rcI cI ad zr 16 12, rcI cI ad zr 18 8, rcJ cJ ad zr 19 8, rcI cI ad zr 25 40, rcI cI ad zr 26 40, rcI cI ad zr 27 40, rcI cZ ad zr 28 40, rcJ cJ ad zr 29 40, rcJ cJ ad zr 30 40, rcJ cJ ad zr 31 40, rcJ cJ ad zr 32 40, rcJ cJ ad zr 33 40, rcI cI ad zr 35 80, rcI cI ad zr 36 80, rcI cI ad zr 37 80] := hD
                          refine lv_iinc (v := nI (i105 + 1)) (lv' := [(6, .int (nI (i105 + 1))), (0, .ref qm), (1, .int (nI js)), (2, .int (nI ia)), (3, .int (nI jo)), (4, .int (nI ja)), (5, .int (nI nn2))]) hx hb dX11_copy_133 hl (k := 0) rfl (nI_1 i105) (by decide) rfl (fun ls hl => ?_)
                          refine lv_goto (tgt := 105) hx hb dX11_copy_136 (by decide) ?_
                          exact ihi105 (i105 + 1)  _ _ ls (by omega) (by omega)  (hP.sub [0, 1, 2, 3, 4, 5, 6, 7, 8, 9, 10, 11, 12, 13, 14, 15, 16, 17, 18, 19, 20, 21, 22, 23, 24, 25, 26, 27] rfl) (hD.sub [0, 1, 2, 3, 4, 5, 6, 7, 8, 9, 10, 11, 12, 13, 14, 15, 16, 17, 18, 19, 20, 21, 22, 23, 24, 25, 26, 27] (by decide) rfl) hS (lv_sub hl [0, 1, 2, 3, 4, 5, 6] rfl)
                    exact loop105 (nn2 + 1 - 0) 0  _ _ ls (by omega) (by omega)  hP hD hS (lv_sub hl [0, 1, 2, 3, 4, 5, 6] rfl)
                  · skip
                    have c23 := (fa_bool_prop hr22).2.mp c23
                    refine lv_aload_n hx hb dX11_copy_96 rfl (lv_at hl 0 rfl) ?_
                    refine lv_iconst (v := 3) hx hb dX11_copy_97 (by decide) ?_
                    have hPc := hP.sub (ws' := [rcO qm ad zr]) [0] rfl
                    have hDc := hD.sub (ws' := [rcO qm ad zr]) [0] (by decide) rfl
                    have hKc := hK.sub (tys' := []) [] rfl
                    have hFc := va_free (wc := [rcO qm ad zr]) hD hS hA [0] rfl
                    refine va_calli (va_runV (As := [.int 3]) (rest := []) ⟨hx, hb, hml, hown, hts⟩ (c_X11_failed l dC dI  _ qm (.int (rs_i zr 0)) (.int (rs_i zr 1)) (.ref (ad 2)) (.ref (ad 3)) (.ref (ad 4)) (.ref (ad 5)) (.int (rs_i zr 6)) (.ref (ad 7)) (.ref (ad 8)) (.ref (ad 9)) (.ref (ad 10)) (.int (nI (rs_n zr 0))) (.ref (ad 12)) (.ref (ad 13)) (.ref (ad 14)) (.ref (ad 15)) (.ref (ad 16)) (.int (nI (rs_n zr 1))) (.ref (ad 18)) (.ref (ad 19)) (.int (rs_i zr 20)) (.int (rs_i zr 21)) (.int (rs_i zr 22)) (.int (rs_i zr 23)) (.int (nI (rs_n zr 2))) (.ref (ad 25)) (.ref (ad 26)) (.ref (ad 27)) (.ref (ad 28)) (.ref (ad 29)) (.ref (ad 30)) (.ref (ad 31)) (.ref (ad 32)) (.ref (ad 33)) (.int (nI (rs_n zr 3))) (.ref (ad 35)) (.ref (ad 36)) (.ref (ad 37)) (.int (rs_i zr 38)) 3 ) (cwV 1 hts gX11_copy_X11_failed rfl rfl rfl (by decide +kernel) ⟨Nat.le_of_ble_eq_true rfl, Nat.le_of_ble_eq_true rfl⟩) (pw_preV (va_recv hKc hPc (ci := 11) (q0 := 0) rfl rfl) hPc hKc hDc hN) rfl rfl hl.1 rfl (lv_room (Nat.le_of_ble_eq_true rfl)) dX11_copy_98 ⟨Nat.le_of_ble_eq_true rfl, Nat.le_of_ble_eq_true rfl⟩) hS (fun q _ h => hFc q h) hFc (fun r29 u t H1 locs ht hvm hw hB hz1 hk1 hS => ?_)
                    have hr29 : r29 = -10 - 3 := hw
                    obtain ⟨hP1, hK1, hD1⟩ := hB
                    rw [ht] at hP1
                    obtain ⟨hP, hD⟩ := va_join (wr := [rcI cI ad zr 2 48, rcI cI ad zr 3 48, rcI cI ad zr 4 48, rcI cI ad zr 5 48, rcI cI ad zr 7 4, rcI cI ad zr 8 4, rcI cI ad zr 9 192, rcI cI ad zr 10 48, rcI cI ad zr 12 12, rcI cI ad zr 13 12, rcI cI ad zr 14 12, rcI cI ad zr 15 12, rcI cI ad zr 16 12, rcI cI ad zr 18 8, rcJ cJ ad zr 19 8, rcI cI ad zr 25 40, rcI cI ad zr 26 40, rcI cI ad zr 27 40, rcI cZ ad zr 28 40, rcJ cJ ad zr 29 40, rcJ cJ ad zr 30 40, rcJ cJ ad zr 31 40, rcJ cJ ad zr 32 40, rcJ cJ ad zr 33 40, rcI cI ad zr 35 80, rcI cI ad zr 36 80, rcI cI ad zr 37 80]) (w1 := [(qm, .inr (11, [.int 3, .int (rs_i zr 1), .ref (ad 2), .ref (ad 3), .ref (ad 4), .ref (ad 5), .int (rs_i zr 6), .ref (ad 7), .ref (ad 8), .ref (ad 9), .ref (ad 10), .int (nI (rs_n zr 0)), .ref (ad 12), .ref (ad 13), .ref (ad 14), .ref (ad 15), .ref (ad 16), .int (nI (rs_n zr 1)), .ref (ad 18), .ref (ad 19), .int (rs_i zr 20), .int (rs_i zr 21), .int (rs_i zr 22), .int (rs_i zr 23), .int (nI (rs_n zr 2)), .ref (ad 25), .ref (ad 26), .ref (ad 27), .ref (ad 28), .ref (ad 29), .ref (ad 30), .ref (ad 31), .ref (ad 32), .ref (ad 33), .int (nI (rs_n zr 3)), .ref (ad 35), .ref (ad 36), .ref (ad 37), .int (rs_i zr 38)]))]) hP hD [0] [1, 2, 3, 4, 5, 6, 7, 8, 9, 10, 11, 12, 13, 14, 15, 16, 17, 18, 19, 20, 21, 22, 23, 24, 25, 26, 27] rfl rfl (by decide) (by decide) hk1 hFc hP1 hD1
                    generalize H1 = H at hP hS ⊢
                    have hP : va_P (dC, dI) vwCl [rcI cI ad zr 2 48, rcI cI ad zr 3 48, rcI cI ad zr 4 48, rcI cI ad zr 5 48, rcI cI ad zr 7 4, rcI cI ad zr 8 4, rcI cI ad zr 9 192, rcI cI ad zr 10 48, rcI cI ad zr 12 12, rcI cI ad zr 13 12, rcI cI ad zr 14 12, rcI cI ad zr 15 12, rcI cI ad zr 16 12, rcI cI ad zr 18 8, rcJ cJ ad zr 19 8, rcI cI ad zr 25 40, rcI cI ad zr 26 40, rcI cI ad zr 27 40, rcI cZ ad zr 28 40, rcJ cJ ad zr 29 40, rcJ cJ ad zr 30 40, rcJ cJ ad zr 31 40, rcJ cJ ad zr 32 40, rcJ cJ ad zr 33 40, rcI cI ad zr 35 80, rcI cI ad zr 36 80, rcI cI ad zr 37 80, (qm, .inr (11, [.int 3, .int (rs_i zr 1), .ref (ad 2), .ref (ad 3), .ref (ad 4), .ref (ad 5), .int (rs_i zr 6), .ref (ad 7), .ref (ad 8), .ref (ad 9), .ref (ad 10), .int (nI (rs_n zr 0)), .ref (ad 12), .ref (ad 13), .ref (ad 14), .ref (ad 15), .ref (ad 16), .int (nI (rs_n zr 1)), .ref (ad 18), .ref (ad 19), .int (rs_i zr 20), .int (rs_i zr 21), .int (rs_i zr 22), .int (rs_i zr 23), .int (nI (rs_n zr 2)), .ref (ad 25), .ref (ad 26), .ref (ad 27), .ref (ad 28), .ref (ad 29), .ref (ad 30), .ref (ad 31), .ref (ad 32), .ref (ad 33), .int (nI (rs_n zr 3)), .ref (ad 35), .ref (ad 36), .ref (ad 37), .int (rs_i zr 38)]))] H := hP
                    have hD : va_D _ [rcI cI ad zr 2 48, rcI cI ad zr 3 48, rcI cI ad zr 4 48, rcI cI ad zr 5 48, rcI cI ad zr 7 4, rcI cI ad zr 8 4, rcI cI ad zr 9 192, rcI cI ad zr 10 48, rcI cI ad zr 12 12, rcI cI ad zr 13 12, rcI cI ad zr 14 12, rcI cI ad zr 15 12, rcI cI ad zr 16 12, rcI cI ad zr 18 8, rcJ cJ ad zr 19 8, rcI cI ad zr 25 40, rcI cI ad zr 26 40, rcI cI ad zr 27 40, rcI cZ ad zr 28 40, rcJ cJ ad zr 29 40, rcJ cJ ad zr 30 40, rcJ cJ ad zr 31 40, rcJ cJ ad zr 32 40, rcJ cJ ad zr 33 40, rcI cI ad zr 35 80, rcI cI ad zr 36 80, rcI cI ad zr 37 80, (qm, .inr (11, [.int 3, .int (rs_i zr 1), .ref (ad 2), .ref (ad 3), .ref (ad 4), .ref (ad 5), .int (rs_i zr 6), .ref (ad 7), .ref (ad 8), .ref (ad 9), .ref (ad 10), .int (nI (rs_n zr 0)), .ref (ad 12), .ref (ad 13), .ref (ad 14), .ref (ad 15), .ref (ad 16), .int (nI (rs_n zr 1)), .ref (ad 18), .ref (ad 19), .int (rs_i zr 20), .int (rs_i zr 21), .int (rs_i zr 22), .int (rs_i zr 23), .int (nI (rs_n zr 2)), .ref (ad 25), .ref (ad 26), .ref (ad 27), .ref (ad 28), .ref (ad 29), .ref (ad 30), .ref (ad 31), .ref (ad 32), .ref (ad 33), .int (nI (rs_n zr 3)), .ref (ad 35), .ref (ad 36), .ref (ad 37), .int (rs_i zr 38)]))] := hD
                    have hr29 := hr29.symm
                    subst hr29
                    refine W.eq (g2 := F0 m 101 ls [.int (-10 - 3)]) rfl ?_
                    subst hQ
                    have hlf := lr_copy_5 qm cI cJ cZ ad zr ix jx n js jo hjs hjo c10 c13 c16 c19 c23 hI
                    have hP9 : va_P (dC, dI) vwCl (rW qm cI cJ cZ ad (va_up (rs_i zr) 0 3, rs_n zr, rs_I zr, rs_L zr)) H := by rw [hlf.2]; exact hP.sub [27, 0, 1, 2, 3, 4, 5, 6, 7, 8, 9, 10, 11, 12, 13, 14, 15, 16, 17, 18, 19, 20, 21, 22, 23, 24, 25, 26] rfl
                    have hD9 : va_D (va_A (rW qm cI cJ cZ ad zr) s.heap.size) (rW qm cI cJ cZ ad (va_up (rs_i zr) 0 3, rs_n zr, rs_I zr, rs_L zr)) := by rw [hlf.2]; exact hD.sub [27, 0, 1, 2, 3, 4, 5, 6, 7, 8, 9, 10, 11, 12, 13, 14, 15, 16, 17, 18, 19, 20, 21, 22, 23, 24, 25, 26] (by decide) rfl
                    exact W.iret (v := -10 - 3) hx hb hr (fun t ht hW => ⟨⟨-10 - 3, (va_up (rs_i zr) 0 3, rs_n zr, rs_I zr, rs_L zr), rfl, ⟨hlf.1, (Or.inr (Or.inr (Or.inr (Or.inr (Or.inr (Or.inl ⟨js, rfl, hjs, jo, rfl, hjo, c10, c13, c16, c19, c23, rfl, rfl⟩))))))⟩, by rw [ht]; exact hP9, va_K.moved hW.alike hK, hD9⟩, hS.F ht⟩) hS.2.2 dX11_copy_101
              · skip
                refine lv_aload_n hx hb dX11_copy_59 rfl (lv_at hl 0 rfl) ?_
                refine lv_iconst (v := 2) hx hb dX11_copy_60 (by decide) ?_
                have hPc := hP.sub (ws' := [rcO qm ad zr]) [0] rfl
                have hDc := hD.sub (ws' := [rcO qm ad zr]) [0] (by decide) rfl
                have hKc := hK.sub (tys' := []) [] rfl
                have hFc := va_free (wc := [rcO qm ad zr]) hD hS hA [0] rfl
                refine va_calli (va_runV (As := [.int 2]) (rest := []) ⟨hx, hb, hml, hown, hts⟩ (c_X11_failed l dC dI  _ qm (.int (rs_i zr 0)) (.int (rs_i zr 1)) (.ref (ad 2)) (.ref (ad 3)) (.ref (ad 4)) (.ref (ad 5)) (.int (rs_i zr 6)) (.ref (ad 7)) (.ref (ad 8)) (.ref (ad 9)) (.ref (ad 10)) (.int (nI (rs_n zr 0))) (.ref (ad 12)) (.ref (ad 13)) (.ref (ad 14)) (.ref (ad 15)) (.ref (ad 16)) (.int (nI (rs_n zr 1))) (.ref (ad 18)) (.ref (ad 19)) (.int (rs_i zr 20)) (.int (rs_i zr 21)) (.int (rs_i zr 22)) (.int (rs_i zr 23)) (.int (nI (rs_n zr 2))) (.ref (ad 25)) (.ref (ad 26)) (.ref (ad 27)) (.ref (ad 28)) (.ref (ad 29)) (.ref (ad 30)) (.ref (ad 31)) (.ref (ad 32)) (.ref (ad 33)) (.int (nI (rs_n zr 3))) (.ref (ad 35)) (.ref (ad 36)) (.ref (ad 37)) (.int (rs_i zr 38)) 2 ) (cwV 1 hts gX11_copy_X11_failed rfl rfl rfl (by decide +kernel) ⟨Nat.le_of_ble_eq_true rfl, Nat.le_of_ble_eq_true rfl⟩) (pw_preV (va_recv hKc hPc (ci := 11) (q0 := 0) rfl rfl) hPc hKc hDc hN) rfl rfl hl.1 rfl (lv_room (Nat.le_of_ble_eq_true rfl)) dX11_copy_61 ⟨Nat.le_of_ble_eq_true rfl, Nat.le_of_ble_eq_true rfl⟩) hS (fun q _ h => hFc q h) hFc (fun r30 u t H1 locs ht hvm hw hB hz1 hk1 hS => ?_)
                have hr30 : r30 = -10 - 2 := hw
                obtain ⟨hP1, hK1, hD1⟩ := hB
                rw [ht] at hP1
                obtain ⟨hP, hD⟩ := va_join (wr := [rcI cI ad zr 2 48, rcI cI ad zr 3 48, rcI cI ad zr 4 48, rcI cI ad zr 5 48, rcI cI ad zr 7 4, rcI cI ad zr 8 4, rcI cI ad zr 9 192, rcI cI ad zr 10 48, rcI cI ad zr 12 12, rcI cI ad zr 13 12, rcI cI ad zr 14 12, rcI cI ad zr 15 12, rcI cI ad zr 16 12, rcI cI ad zr 18 8, rcJ cJ ad zr 19 8, rcI cI ad zr 25 40, rcI cI ad zr 26 40, rcI cI ad zr 27 40, rcI cZ ad zr 28 40, rcJ cJ ad zr 29 40, rcJ cJ ad zr 30 40, rcJ cJ ad zr 31 40, rcJ cJ ad zr 32 40, rcJ cJ ad zr 33 40, rcI cI ad zr 35 80, rcI cI ad zr 36 80, rcI cI ad zr 37 80]) (w1 := [(qm, .inr (11, [.int 2, .int (rs_i zr 1), .ref (ad 2), .ref (ad 3), .ref (ad 4), .ref (ad 5), .int (rs_i zr 6), .ref (ad 7), .ref (ad 8), .ref (ad 9), .ref (ad 10), .int (nI (rs_n zr 0)), .ref (ad 12), .ref (ad 13), .ref (ad 14), .ref (ad 15), .ref (ad 16), .int (nI (rs_n zr 1)), .ref (ad 18), .ref (ad 19), .int (rs_i zr 20), .int (rs_i zr 21), .int (rs_i zr 22), .int (rs_i zr 23), .int (nI (rs_n zr 2)), .ref (ad 25), .ref (ad 26), .ref (ad 27), .ref (ad 28), .ref (ad 29), .ref (ad 30), .ref (ad 31), .ref (ad 32), .ref (ad 33), .int (nI (rs_n zr 3)), .ref (ad 35), .ref (ad 36), .ref (ad 37), .int (rs_i zr 38)]))]) hP hD [0] [1, 2, 3, 4, 5, 6, 7, 8, 9, 10, 11, 12, 13, 14, 15, 16, 17, 18, 19, 20, 21, 22, 23, 24, 25, 26, 27] rfl rfl (by decide) (by decide) hk1 hFc hP1 hD1
                generalize H1 = H at hP hS ⊢
                have hP : va_P (dC, dI) vwCl [rcI cI ad zr 2 48, rcI cI ad zr 3 48, rcI cI ad zr 4 48, rcI cI ad zr 5 48, rcI cI ad zr 7 4, rcI cI ad zr 8 4, rcI cI ad zr 9 192, rcI cI ad zr 10 48, rcI cI ad zr 12 12, rcI cI ad zr 13 12, rcI cI ad zr 14 12, rcI cI ad zr 15 12, rcI cI ad zr 16 12, rcI cI ad zr 18 8, rcJ cJ ad zr 19 8, rcI cI ad zr 25 40, rcI cI ad zr 26 40, rcI cI ad zr 27 40, rcI cZ ad zr 28 40, rcJ cJ ad zr 29 40, rcJ cJ ad zr 30 40, rcJ cJ ad zr 31 40, rcJ cJ ad zr 32 40, rcJ cJ ad zr 33 40, rcI cI ad zr 35 80, rcI cI ad zr 36 80, rcI cI ad zr 37 80, (qm, .inr (11, [.int 2, .int (rs_i zr 1), .ref (ad 2), .ref (ad 3), .ref (ad 4), .ref (ad 5), .int (rs_i zr 6), .ref (ad 7), .ref (ad 8), .ref (ad 9), .ref (ad 10), .int (nI (rs_n zr 0)), .ref (ad 12), .ref (ad 13), .ref (ad 14), .ref (ad 15), .ref (ad 16), .int (nI (rs_n zr 1)), .ref (ad 18), .ref (ad 19), .int (rs_i zr 20), .int (rs_i zr 21), .int (rs_i zr 22), .int (rs_i zr 23), .int (nI (rs_n zr 2)), .ref (ad 25), .ref (ad 26), .ref (ad 27), .ref (ad 28), .ref (ad 29), .ref (ad 30), .ref (ad 31), .ref (ad 32), .ref (ad 33), .int (nI (rs_n zr 3)), .ref (ad 35), .ref (ad 36), .ref (ad 37), .int (rs_i zr 38)]))] H := hP
                have hD : va_D _ [rcI cI ad zr 2 48, rcI cI ad zr 3 48, rcI cI ad zr 4 48, rcI cI ad zr 5 48, rcI cI ad zr 7 4, rcI cI ad zr 8 4, rcI cI ad zr 9 192, rcI cI ad zr 10 48, rcI cI ad zr 12 12, rcI cI ad zr 13 12, rcI cI ad zr 14 12, rcI cI ad zr 15 12, rcI cI ad zr 16 12, rcI cI ad zr 18 8, rcJ cJ ad zr 19 8, rcI cI ad zr 25 40, rcI cI ad zr 26 40, rcI cI ad zr 27 40, rcI cZ ad zr 28 40, rcJ cJ ad zr 29 40, rcJ cJ ad zr 30 40, rcJ cJ ad zr 31 40, rcJ cJ ad zr 32 40, rcJ cJ ad zr 33 40, rcI cI ad zr 35 80, rcI cI ad zr 36 80, rcI cI ad zr 37 80, (qm, .inr (11, [.int 2, .int (rs_i zr 1), .ref (ad 2), .ref (ad 3), .ref (ad 4), .ref (ad 5), .int (rs_i zr 6), .ref (ad 7), .ref (ad 8), .ref (ad 9), .ref (ad 10), .int (nI (rs_n zr 0)), .ref (ad 12), .ref (ad 13), .ref (ad 14), .ref (ad 15), .ref (ad 16), .int (nI (rs_n zr 1)), .ref (ad 18), .ref (ad 19), .int (rs_i zr 20), .int (rs_i zr 21), .int (rs_i zr 22), .int (rs_i zr 23), .int (nI (rs_n zr 2)), .ref (ad 25), .ref (ad 26), .ref (ad 27), .ref (ad 28), .ref (ad 29), .ref (ad 30), .ref (ad 31), .ref (ad 32), .ref (ad 33), .int (nI (rs_n zr 3)), .ref (ad 35), .ref (ad 36), .ref (ad 37), .int (rs_i zr 38)]))] := hD
                have hr30 := hr30.symm
                subst hr30
                refine W.eq (g2 := F0 m 64 ls [.int (-10 - 2)]) rfl ?_
                subst hQ
                have hlf := lr_copy_6 qm cI cJ cZ ad zr ix jx n js jo hjs hjo c10 c13 c16 hI
                have hP9 : va_P (dC, dI) vwCl (rW qm cI cJ cZ ad (va_up (rs_i zr) 0 2, rs_n zr, rs_I zr, rs_L zr)) H := by rw [hlf.2]; exact hP.sub [27, 0, 1, 2, 3, 4, 5, 6, 7, 8, 9, 10, 11, 12, 13, 14, 15, 16, 17, 18, 19, 20, 21, 22, 23, 24, 25, 26] rfl
                have hD9 : va_D (va_A (rW qm cI cJ cZ ad zr) s.heap.size) (rW qm cI cJ cZ ad (va_up (rs_i zr) 0 2, rs_n zr, rs_I zr, rs_L zr)) := by rw [hlf.2]; exact hD.sub [27, 0, 1, 2, 3, 4, 5, 6, 7, 8, 9, 10, 11, 12, 13, 14, 15, 16, 17, 18, 19, 20, 21, 22, 23, 24, 25, 26] (by decide) rfl
                exact W.iret (v := -10 - 2) hx hb hr (fun t ht hW => ⟨⟨-10 - 2, (va_up (rs_i zr) 0 2, rs_n zr, rs_I zr, rs_L zr), rfl, ⟨hlf.1, (Or.inr (Or.inr (Or.inr (Or.inr (Or.inr (Or.inr (Or.inl ⟨js, rfl, hjs, jo, rfl, hjo, c10, c13, c16, rfl, rfl⟩)))))))⟩, by rw [ht]; exact hP9, va_K.moved hW.alike hK, hD9⟩, hS.F ht⟩) hS.2.2 dX11_copy_64
            · skip
              refine lv_aload_n hx hb dX11_copy_38 rfl (lv_at hl 0 rfl) ?_
              refine lv_iconst (v := 1) hx hb dX11_copy_39 (by decide) ?_
              have hPc := hP.sub (ws' := [rcO qm ad zr]) [0] rfl
              have hDc := hD.sub (ws' := [rcO qm ad zr]) [0] (by decide) rfl
              have hKc := hK.sub (tys' := []) [] rfl
              have hFc := va_free (wc := [rcO qm ad zr]) hD hS hA [0] rfl
              refine va_calli (va_runV (As := [.int 1]) (rest := []) ⟨hx, hb, hml, hown, hts⟩ (c_X11_failed l dC dI  _ qm (.int (rs_i zr 0)) (.int (rs_i zr 1)) (.ref (ad 2)) (.ref (ad 3)) (.ref (ad 4)) (.ref (ad 5)) (.int (rs_i zr 6)) (.ref (ad 7)) (.ref (ad 8)) (.ref (ad 9)) (.ref (ad 10)) (.int (nI (rs_n zr 0))) (.ref (ad 12)) (.ref (ad 13)) (.ref (ad 14)) (.ref (ad 15)) (.ref (ad 16)) (.int (nI (rs_n zr 1))) (.ref (ad 18)) (.ref (ad 19)) (.int (rs_i zr 20)) (.int (rs_i zr 21)) (.int (rs_i zr 22)) (.int (rs_i zr 23)) (.int (nI (rs_n zr 2))) (.ref (ad 25)) (.ref (ad 26)) (.ref (ad 27)) (.ref (ad 28)) (.ref (ad 29)) (.ref (ad 30)) (.ref (ad 31)) (.ref (ad 32)) (.ref (ad 33)) (.int (nI (rs_n zr 3))) (.ref (ad 35)) (.ref (ad 36)) (.ref (ad 37)) (.int (rs_i zr 38)) 1 ) (cwV 1 hts gX11_copy_X11_failed rfl rfl rfl (by decide +kernel) ⟨Nat.le_of_ble_eq_true rfl, Nat.le_of_ble_eq_true rfl⟩) (pw_preV (va_recv hKc hPc (ci := 11) (q0 := 0) rfl rfl) hPc hKc hDc hN) rfl rfl hl.1 rfl (lv_room (Nat.le_of_ble_eq_true rfl)) dX11_copy_40 ⟨Nat.le_of_ble_eq_true rfl, Nat.le_of_ble_eq_true rfl⟩) hS (fun q _ h => hFc q h) hFc (fun r31 u t H1 locs ht hvm hw hB hz1 hk1 hS => ?_)
              have hr31 : r31 = -10 - 1 := hw
              obtain ⟨hP1, hK1, hD1⟩ := hB
              rw [ht] at hP1
              obtain ⟨hP, hD⟩ := va_join (wr := [rcI cI ad zr 2 48, rcI cI ad zr 3 48, rcI cI ad zr 4 48, rcI cI ad zr 5 48, rcI cI ad zr 7 4, rcI cI ad zr 8 4, rcI cI ad zr 9 192, rcI cI ad zr 10 48, rcI cI ad zr 12 12, rcI cI ad zr 13 12, rcI cI ad zr 14 12, rcI cI ad zr 15 12, rcI cI ad zr 16 12, rcI cI ad zr 18 8, rcJ cJ ad zr 19 8, rcI cI ad zr 25 40, rcI cI ad zr 26 40, rcI cI ad zr 27 40, rcI cZ ad zr 28 40, rcJ cJ ad zr 29 40, rcJ cJ ad zr 30 40, rcJ cJ ad zr 31 40, rcJ cJ ad zr 32 40, rcJ cJ ad zr 33 40, rcI cI ad zr 35 80, rcI cI ad zr 36 80, rcI cI ad zr 37 80]) (w1 := [(qm, .inr (11, [.int 1, .int (rs_i zr 1), .ref (ad 2), .ref (ad 3), .ref (ad 4), .ref (ad 5), .int (rs_i zr 6), .ref (ad 7), .ref (ad 8), .ref (ad 9), .ref (ad 10), .int (nI (rs_n zr 0)), .ref (ad 12), .ref (ad 13), .ref (ad 14), .ref (ad 15), .ref (ad 16), .int (nI (rs_n zr 1)), .ref (ad 18), .ref (ad 19), .int (rs_i zr 20), .int (rs_i zr 21), .int (rs_i zr 22), .int (rs_i zr 23), .int (nI (rs_n zr 2)), .ref (ad 25), .ref (ad 26), .ref (ad 27), .ref (ad 28), .ref (ad 29), .ref (ad 30), .ref (ad 31), .ref (ad 32), .ref (ad 33), .int (nI (rs_n zr 3)), .ref (ad 35), .ref (ad 36), .ref (ad 37), .int (rs_i zr 38)]))]) hP hD [0] [1, 2, 3, 4, 5, 6, 7, 8, 9, 10, 11, 12, 13, 14, 15, 16, 17, 18, 19, 20, 21, 22, 23, 24, 25, 26, 27] rfl rfl (by decide) (by decide) hk1 hFc hP1 hD1
              generalize H1 = H at hP hS ⊢
              have hP : va_P (dC, dI) vwCl [rcI cI ad zr 2 48, rcI cI ad zr 3 48, rcI cI ad zr 4 48, rcI cI ad zr 5 48, rcI cI ad zr 7 4, rcI cI ad zr 8 4, rcI cI ad zr 9 192, rcI cI ad zr 10 48, rcI cI ad zr 12 12, rcI cI ad zr 13 12, rcI cI ad zr 14 12, rcI cI ad zr 15 12, rcI cI ad zr 16 12, rcI cI ad zr 18 8, rcJ cJ ad zr 19 8, rcI cI ad zr 25 40, rcI cI ad zr 26 40, rcI cI ad zr 27 40, rcI cZ ad zr 28 40, rcJ cJ ad zr 29 40, rcJ cJ ad zr 30 40, rcJ cJ ad zr 31 40, rcJ cJ ad zr 32 40, rcJ cJ ad zr 33 40, rcI cI ad zr 35 80, rcI cI ad zr 36 80, rcI cI ad zr 37 80, (qm, .inr (11, [.int 1, .int (rs_i zr 1), .ref (ad 2), .ref (ad 3), .ref (ad 4), .ref (ad 5), .int (rs_i zr 6), .ref (ad 7), .ref (ad 8), .ref (ad 9), .ref (ad 10), .int (nI (rs_n zr 0)), .ref (ad 12), .ref (ad 13), .ref (ad 14), .ref (ad 15), .ref (ad 16), .int (nI (rs_n zr 1)), .ref (ad 18), .ref (ad 19), .int (rs_i zr 20), .int (rs_i zr 21), .int (rs_i zr 22), .int (rs_i zr 23), .int (nI (rs_n zr 2)), .ref (ad 25), .ref (ad 26), .ref (ad 27), .ref (ad 28), .ref (ad 29), .ref (ad 30), .ref (ad 31), .ref (ad 32), .ref (ad 33), .int (nI (rs_n zr 3)), .ref (ad 35), .ref (ad 36), .ref (ad 37), .int (rs_i zr 38)]))] H := hP
              have hD : va_D _ [rcI cI ad zr 2 48, rcI cI ad zr 3 48, rcI cI ad zr 4 48, rcI cI ad zr 5 48, rcI cI ad zr 7 4, rcI cI ad zr 8 4, rcI cI ad zr 9 192, rcI cI ad zr 10 48, rcI cI ad zr 12 12, rcI cI ad zr 13 12, rcI cI ad zr 14 12, rcI cI ad zr 15 12, rcI cI ad zr 16 12, rcI cI ad zr 18 8, rcJ cJ ad zr 19 8, rcI cI ad zr 25 40, rcI cI ad zr 26 40, rcI cI ad zr 27 40, rcI cZ ad zr 28 40, rcJ cJ ad zr 29 40, rcJ cJ ad zr 30 40, rcJ cJ ad zr 31 40, rcJ cJ ad zr 32 40, rcJ cJ ad zr 33 40, rcI cI ad zr 35 80, rcI cI ad zr 36 80, rcI cI ad zr 37 80, (qm, .inr (11, [.int 1, .int (rs_i zr 1), .ref (ad 2), .ref (ad 3), .ref (ad 4), .ref (ad 5), .int (rs_i zr 6), .ref (ad 7), .ref (ad 8), .ref (ad 9), .ref (ad 10), .int (nI (rs_n zr 0)), .ref (ad 12), .ref (ad 13), .ref (ad 14), .ref (ad 15), .ref (ad 16), .int (nI (rs_n zr 1)), .ref (ad 18), .ref (ad 19), .int (rs_i zr 20), .int (rs_i zr 21), .int (rs_i zr 22), .int (rs_i zr 23), .int (nI (rs_n zr 2)), .ref (ad 25), .ref (ad 26), .ref (ad 27), .ref (ad 28), .ref (ad 29), .ref (ad 30), .ref (ad 31), .ref (ad 32), .ref (ad 33), .int (nI (rs_n zr 3)), .ref (ad 35), .ref (ad 36), .ref (ad 37), .int (rs_i zr 38)]))] := hD
              have hr31 := hr31.symm
              subst hr31
              refine W.eq (g2 := F0 m 43 ls [.int (-10 - 1)]) rfl ?_
              subst hQ
              have hlf := lr_copy_7 qm cI cJ cZ ad zr ix jx n js jo hjs hjo c10 c13 hI
              have hP9 : va_P (dC, dI) vwCl (rW qm cI cJ cZ ad (va_up (rs_i zr) 0 1, rs_n zr, rs_I zr, rs_L zr)) H := by rw [hlf.2]; exact hP.sub [27, 0, 1, 2, 3, 4, 5, 6, 7, 8, 9, 10, 11, 12, 13, 14, 15, 16, 17, 18, 19, 20, 21, 22, 23, 24, 25, 26] rfl
              have hD9 : va_D (va_A (rW qm cI cJ cZ ad zr) s.heap.size) (rW qm cI cJ cZ ad (va_up (rs_i zr) 0 1, rs_n zr, rs_I zr, rs_L zr)) := by rw [hlf.2]; exact hD.sub [27, 0, 1, 2, 3, 4, 5, 6, 7, 8, 9, 10, 11, 12, 13, 14, 15, 16, 17, 18, 19, 20, 21, 22, 23, 24, 25, 26] (by decide) rfl
              exact W.iret (v := -10 - 1) hx hb hr (fun t ht hW => ⟨⟨-10 - 1, (va_up (rs_i zr) 0 1, rs_n zr, rs_I zr, rs_L zr), rfl, ⟨hlf.1, (Or.inr (Or.inr (Or.inr (Or.inr (Or.inr (Or.inr (Or.inr ⟨js, rfl, hjs, jo, rfl, hjo, c10, c13, rfl, rfl⟩)))))))⟩, by rw [ht]; exact hP9, va_K.moved hW.alike hK, hD9⟩, hS.F ht⟩) hS.2.2 dX11_copy_43
        · exact absurd c8 (by decide)
def cfault (ln le la i n s : Int32) : Int32 := if ln = -1 then 1 else if ¬ ln = la then 2 else if ¬ 0 ≤ n then 4 else if 0 < n ∧ ¬ (0 ≤ i ∧ 0 ≤ n ∧ i.toInt64 + n.toInt64 ≤ le.toInt64) then 3 else if 48 - s < n then 3 else 0
theorem cf0 {ln le la i n s : Int32} (hl : le.toInt ≤ 48) (hs : 0 ≤ s ∧ s ≤ 47) (h : cfault ln le la i n s = 0) : ln = la ∧ ¬ ln = -1 ∧ ∃ nn sa : Nat, n = nI nn ∧ s = nI sa ∧ sa + nn ≤ 48 ∧ sa < 48 ∧ (nn = 0 ∨ ∃ ia : Nat, i = nI ia ∧ ia + nn ≤ 48 ∧ ((ia + nn : Nat) : Int) ≤ le.toInt) := by
  unfold cfault at h
  by_cases h1 : ln = -1
  · rw [if_pos h1] at h; exact absurd h (by decide)
  rw [if_neg h1] at h
  by_cases h2 : ln = la
  · rw [if_neg (not_not_intro h2)] at h
    by_cases h3 : 0 ≤ n
    · rw [if_neg (not_not_intro h3)] at h
      by_cases h4 : 0 < n ∧ ¬ (0 ≤ i ∧ 0 ≤ n ∧ i.toInt64 + n.toInt64 ≤ le.toInt64)
      · rw [if_pos h4] at h; exact absurd h (by decide)
      rw [if_neg h4] at h
      by_cases h5 : 48 - s < n
      · rw [if_pos h5] at h; exact absurd h (by decide)
      obtain ⟨sa, hsa, rfl⟩ := nI_of2 (x := s) (M := 47) (n := 47) (by decide) (Int32.not_lt.mpr hs.1) hs.2
      obtain ⟨nn, hnn, rfl⟩ := nI_of (x := n) (Int32.not_lt.mpr h3)
      have e : (48 : Int32) - nI sa = nI (48 - sa) := pk_sub (a := 48) (by omega)
      rw [e] at h5
      have h6 : nn ≤ 48 - sa := Nat.not_lt.mp fun q => h5 (nI_lt q hnn)
      refine ⟨h2, h1, nn, sa, rfl, rfl, by omega, by omega, ?_⟩
      rcases Nat.eq_zero_or_pos nn with h7 | h7
      · exact Or.inl h7
      · have h8 : (0 : Int32) < nI nn := show nI 0 < nI nn from nI_lt h7 hnn
        have h9 : 0 ≤ i ∧ 0 ≤ nI nn ∧ i.toInt64 + (nI nn).toInt64 ≤ le.toInt64 := Decidable.byContradiction fun q => h4 ⟨h8, q⟩
        obtain ⟨a, b, e1, e2, h10, h11⟩ := hold_nat h9 hl
        have e3 : b = nn := (nI_eq (by omega) hnn).mp e2.symm
        subst e3
        exact Or.inr ⟨a, e1, h10, h11⟩
    · rw [if_pos h3] at h; exact absurd h (by decide)
  · rw [if_pos h2] at h; exact absurd h (by decide)
def chL (g : Nat → Int32) (f s : Nat) (a : Nat → Int32) : Nat → Nat → Int32
  | 0 => a
  | c + 1 => if g (f + c) < 0 then chL g f s a c else tcL (s + c) (g (f + c)) (chL g f s a c)
def chH (g : Nat → Int32) (f s : Nat) (a : Nat → Int32) : Nat → Nat → Int32
  | 0 => a
  | c + 1 => if g (f + c) < 0 then chH g f s a c else tcH (s + c) (g (f + c)) (chH g f s a c)
set_option maxHeartbeats 4000000 in
set_option maxRecDepth 100000 in
theorem s_chartFault (l : Launch) (dC : Nat → ClassId) (dI : Nat → Nat → Nat)  (sz : Nat) (qs : Nat) (c0v : Value) (ln : Int32) (le : Int32) (la : Int32) (i : Int32) (n : Int32) (sv : Int32)  : Met l yX10_chartFault wsX10_chartFault ({ frames := 2, cells := 0, slots := 0, locals := 60 }) (pw (dC, dI) [] [(qs, .inr (7, [c0v, .int ln, .int le]))] sz [.ref qs, .int la, .int i, .int n, .int sv]) (vp_Si (fun r => r = cfault ln le la i n sv)) 0 0 (fun _ => False) := by
  refine pw_met (cc := cX10_chartFault) (maxL := 6) (ret := (some .int)) (by decide) rfl (Nat.le_of_ble_eq_true rfl) ?_
  intro p e s m below meth c0 hx hb hr hml hown hlocks hnm hts hP hK hD hN hsz hA hS ls hl
  have hl : lv_has ls 6 [(0, .ref qs), (1, .int la), (2, .int i), (3, .int n), (4, .int sv)] := hl
  generalize hQ : MQ _ _ _ _ _ _ _ = Q
  refine lv_aload_n hx hb dX10_chartFault_0 rfl (lv_at hl 0 rfl) ?_
  refine lv_iload_n hx hb dX10_chartFault_1 rfl (lv_at hl 1 rfl) ?_
  have hPc := hP.sub (ws' := [(qs, .inr (7, [c0v, .int ln, .int le]))]) [0] rfl
  have hDc := hD.sub (ws' := [(qs, .inr (7, [c0v, .int ln, .int le]))]) [0] (by decide) rfl
  have hKc := hK.sub (tys' := []) [] rfl
  refine vp_callSi (va_Run.run (va_runV (As := [.int la]) (rest := []) ⟨hx, hb, hml, hown, hts⟩ (s_faultAs l dC dI  _ qs c0v ln le la ) (cwV 1 hts gX10_chartFault_X7_faultAs rfl rfl rfl (by decide +kernel) ⟨Nat.le_of_ble_eq_true rfl, Nat.le_of_ble_eq_true rfl⟩) (pw_preV (va_recv hKc hPc (ci := 7) (q0 := 0) rfl rfl) hPc hKc hDc hN) rfl rfl hl.1 rfl (lv_room (Nat.le_of_ble_eq_true rfl)) dX10_chartFault_2 ⟨Nat.le_of_ble_eq_true rfl, Nat.le_of_ble_eq_true rfl⟩)) (fun r1 hr1 => ?_)
  have hr1 : r1 = if ln = -1 then 1 else if ln = la then 0 else 2 := hr1
  by_cases hl1 : ln = -1
  · rw [if_pos hl1] at hr1; subst hr1
    refine lv_istore (lv' := [(5, .int 1), (0, .ref qs), (1, .int la), (2, .int i), (3, .int n), (4, .int sv)]) hx hb dX10_chartFault_5 hl (by decide) rfl (fun ls hl => ?_)
    refine lv_iload hx hb dX10_chartFault_7 (lv_at hl 0 rfl) ?_
    refine lv_if_eq (tgt := 15) hx hb dX10_chartFault_9 (by decide) (fun c2 => ?_) (fun c2 => ?_)
    · exact absurd c2 (by decide)
    · skip
      refine lv_iload hx hb dX10_chartFault_12 (lv_at hl 0 rfl) ?_
      subst hQ
      exact W.iret (v := 1) hx hb hr (fun t ht hW => ⟨1, rfl, (by rw [cfault, if_pos hl1]), ht⟩) (fun q h => absurd h List.not_mem_nil) dX10_chartFault_14
  · rw [if_neg hl1] at hr1
    by_cases hl2 : ln = la
    · rw [if_pos hl2] at hr1; subst hr1
      refine lv_istore (lv' := [(5, .int 0), (0, .ref qs), (1, .int la), (2, .int i), (3, .int n), (4, .int sv)]) hx hb dX10_chartFault_5 hl (by decide) rfl (fun ls hl => ?_)
      refine lv_iload hx hb dX10_chartFault_7 (lv_at hl 0 rfl) ?_
      refine lv_if_eq (tgt := 15) hx hb dX10_chartFault_9 (by decide) (fun c3 => ?_) (fun c3 => ?_)
      · skip
        refine lv_iload_n hx hb dX10_chartFault_15 rfl (lv_at hl 4 rfl) ?_
        refine lv_if_ge (tgt := 21) hx hb dX10_chartFault_16 (by decide) (fun c4 => ?_) (fun c4 => ?_)
        · skip
          refine lv_iload_n hx hb dX10_chartFault_21 rfl (lv_at hl 4 rfl) ?_
          refine lv_if_le (tgt := 36) hx hb dX10_chartFault_22 (by decide) (fun c5 => ?_) (fun c5 => ?_)
          · skip
            refine lv_iload_n hx hb dX10_chartFault_36 rfl (lv_at hl 4 rfl) ?_
            refine lv_bipush (v := 48) hx hb dX10_chartFault_37 (by decide) ?_
            refine lv_iload hx hb dX10_chartFault_39 (lv_at hl 5 rfl) ?_
            refine lv_isub hx hb dX10_chartFault_41 ?_
            refine lv_icmp_le (tgt := 49) hx hb dX10_chartFault_42 (by decide) (fun c6 => ?_) (fun c6 => ?_)
            · skip
              refine lv_iconst (v := 0) hx hb dX10_chartFault_49 (by decide) ?_
              subst hQ
              exact W.iret (v := 0) hx hb hr (fun t ht hW => ⟨0, rfl, (by rw [cfault, if_neg hl1, if_neg (not_not_intro hl2), if_neg (not_not_intro c4), if_neg (fun q => absurd q.1 (Int32.not_lt.mpr c5)), if_neg (Int32.not_lt.mpr c6)]), ht⟩) (fun q h => absurd h List.not_mem_nil) dX10_chartFault_50
            · skip
              refine lv_iconst (v := 3) hx hb dX10_chartFault_45 (by decide) ?_
              refine lv_goto (tgt := 50) hx hb dX10_chartFault_46 (by decide) ?_
              subst hQ
              exact W.iret (v := 3) hx hb hr (fun t ht hW => ⟨3, rfl, (by rw [cfault, if_neg hl1, if_neg (not_not_intro hl2), if_neg (not_not_intro c4), if_neg (fun q => absurd q.1 (Int32.not_lt.mpr c5)), if_pos (Int32.not_le.mp c6)]), ht⟩) (fun q h => absurd h List.not_mem_nil) dX10_chartFault_50
          · skip
            refine lv_aload_n hx hb dX10_chartFault_25 rfl (lv_at hl 1 rfl) ?_
            refine lv_iload_n hx hb dX10_chartFault_26 rfl (lv_at hl 3 rfl) ?_
            refine lv_iload_n hx hb dX10_chartFault_27 rfl (lv_at hl 4 rfl) ?_
            have hPc := hP.sub (ws' := [(qs, .inr (7, [c0v, .int ln, .int le]))]) [0] rfl
            have hDc := hD.sub (ws' := [(qs, .inr (7, [c0v, .int ln, .int le]))]) [0] (by decide) rfl
            have hKc := hK.sub (tys' := []) [] rfl
            refine vp_callSi (va_Run.run (va_runV (As := [.int i, .int n]) (rest := []) ⟨hx, hb, hml, hown, hts⟩ (s_holds l dC dI  _ qs c0v ln le i n ) (cwV 2 hts gX10_chartFault_X7_holds rfl rfl rfl (by decide +kernel) ⟨Nat.le_of_ble_eq_true rfl, Nat.le_of_ble_eq_true rfl⟩) (pw_preV (va_recv hKc hPc (ci := 7) (q0 := 0) rfl rfl) hPc hKc hDc hN) rfl rfl hl.1 rfl (lv_room (Nat.le_of_ble_eq_true rfl)) dX10_chartFault_28 ⟨Nat.le_of_ble_eq_true rfl, Nat.le_of_ble_eq_true rfl⟩)) (fun r7 hr7 => ?_)
            have hr7 : r7 = if 0 ≤ i ∧ 0 ≤ n ∧ i.toInt64 + n.toInt64 ≤ le.toInt64 then 1 else 0 := hr7
            refine lv_if_ne (tgt := 36) hx hb dX10_chartFault_31 (by decide) (fun c8 => ?_) (fun c8 => ?_)
            · skip
              have c8 := (fa_bool_prop hr7).2.mp c8
              refine lv_iload_n hx hb dX10_chartFault_36 rfl (lv_at hl 4 rfl) ?_
              refine lv_bipush (v := 48) hx hb dX10_chartFault_37 (by decide) ?_
              refine lv_iload hx hb dX10_chartFault_39 (lv_at hl 5 rfl) ?_
              refine lv_isub hx hb dX10_chartFault_41 ?_
              refine lv_icmp_le (tgt := 49) hx hb dX10_chartFault_42 (by decide) (fun c9 => ?_) (fun c9 => ?_)
              · skip
                refine lv_iconst (v := 0) hx hb dX10_chartFault_49 (by decide) ?_
                subst hQ
                exact W.iret (v := 0) hx hb hr (fun t ht hW => ⟨0, rfl, (by rw [cfault, if_neg hl1, if_neg (not_not_intro hl2), if_neg (not_not_intro c4), if_neg (fun q => q.2 c8), if_neg (Int32.not_lt.mpr c9)]), ht⟩) (fun q h => absurd h List.not_mem_nil) dX10_chartFault_50
              · skip
                refine lv_iconst (v := 3) hx hb dX10_chartFault_45 (by decide) ?_
                refine lv_goto (tgt := 50) hx hb dX10_chartFault_46 (by decide) ?_
                subst hQ
                exact W.iret (v := 3) hx hb hr (fun t ht hW => ⟨3, rfl, (by rw [cfault, if_neg hl1, if_neg (not_not_intro hl2), if_neg (not_not_intro c4), if_neg (fun q => q.2 c8), if_pos (Int32.not_le.mp c9)]), ht⟩) (fun q h => absurd h List.not_mem_nil) dX10_chartFault_50
            · skip
              have c8 := (fa_bool_prop hr7).1.mp c8
              refine lv_iconst (v := 3) hx hb dX10_chartFault_34 (by decide) ?_
              subst hQ
              exact W.iret (v := 3) hx hb hr (fun t ht hW => ⟨3, rfl, (by rw [cfault, if_neg hl1, if_neg (not_not_intro hl2), if_neg (not_not_intro c4), if_pos ⟨Int32.not_le.mp c5, c8⟩]), ht⟩) (fun q h => absurd h List.not_mem_nil) dX10_chartFault_35
        · skip
          refine lv_iconst (v := 4) hx hb dX10_chartFault_19 (by decide) ?_
          subst hQ
          exact W.iret (v := 4) hx hb hr (fun t ht hW => ⟨4, rfl, (by rw [cfault, if_neg hl1, if_neg (not_not_intro hl2), if_pos c4]), ht⟩) (fun q h => absurd h List.not_mem_nil) dX10_chartFault_20
      · exact absurd c3 (by decide)
    · rw [if_neg hl2] at hr1; subst hr1
      refine lv_istore (lv' := [(5, .int 2), (0, .ref qs), (1, .int la), (2, .int i), (3, .int n), (4, .int sv)]) hx hb dX10_chartFault_5 hl (by decide) rfl (fun ls hl => ?_)
      refine lv_iload hx hb dX10_chartFault_7 (lv_at hl 0 rfl) ?_
      refine lv_if_eq (tgt := 15) hx hb dX10_chartFault_9 (by decide) (fun c10 => ?_) (fun c10 => ?_)
      · exact absurd c10 (by decide)
      · skip
        refine lv_iload hx hb dX10_chartFault_12 (lv_at hl 0 rfl) ?_
        subst hQ
        exact W.iret (v := 2) hx hb hr (fun t ht hW => ⟨2, rfl, (by rw [cfault, if_neg hl1, if_pos hl2]), ht⟩) (fun q h => absurd h List.not_mem_nil) dX10_chartFault_14
set_option maxHeartbeats 4000000 in
set_option maxRecDepth 100000 in
theorem s_hasAbove0 (l : Launch) (dC : Nat → ClassId) (dI : Nat → Nat → Nat)  (sz : Nat) (qs : Nat) (c0v : Value) (c1v : Value) (c2v : Value) (mo : Int32) (i : Int32)  : Met l yX7_hasAbove wsX7_hasAbove ({ frames := 0, cells := 0, slots := 0, locals := 0 }) (pw (dC, dI) [] [(qs, .inr (7, [c0v, c1v, c2v]))] sz [.ref qs, .int mo, .int i, .int 0]) (vp_Si (fun r => r = 0)) 0 0 (fun _ => False) := by
  refine pw_met (cc := cX7_hasAbove) (maxL := 5) (ret := (some .boolean)) (by decide) rfl (Nat.le_of_ble_eq_true rfl) ?_
  intro p e s m below meth c0 hx hb hr hml hown hlocks hnm hts hP hK hD hN hsz hA hS ls hl
  have hl : lv_has ls 5 [(0, .ref qs), (1, .int mo), (2, .int i), (3, .int 0)] := hl
  generalize hQ : MQ _ _ _ _ _ _ _ = Q
  refine lv_iconst (v := 0) hx hb dX7_hasAbove_0 (by decide) ?_
  refine lv_istore (lv' := [(4, .int 0), (0, .ref qs), (1, .int mo), (2, .int i), (3, .int 0)]) hx hb dX7_hasAbove_1 hl (by decide) rfl (fun ls hl => ?_)
  refine lv_iload hx hb dX7_hasAbove_3 (lv_at hl 0 rfl) ?_
  refine lv_iload_n hx hb dX7_hasAbove_5 rfl (lv_at hl 4 rfl) ?_
  refine lv_icmp_ge (tgt := 30) hx hb dX7_hasAbove_6 (by decide) (fun c1 => ?_) (fun c1 => ?_)
  · skip
    refine lv_iconst (v := 0) hx hb dX7_hasAbove_30 (by decide) ?_
    subst hQ
    exact W.zret (v := 0) hx hb hr rfl (fun t ht hW => ⟨0, rfl, rfl, ht⟩) (fun q h => absurd h List.not_mem_nil) dX7_hasAbove_31
  · exact absurd c1 (by decide)
