def pR_foretold (zr : RS2) (pp : Int32) (wh : Int32) (r : Int64) (u : RS2) : Prop :=
  ((∀ j, j < rs_n zr 0 → pp ≠ nI j) ∧ r = ((-9223372036854775808)) ∧ u = zr) ∨
  (∃ jp : Nat, pp = nI jp ∧ (jp < rs_n zr 0) ∧ (0 ≤ wh ∧ wh ≤ 1) ∧ wh = 0 ∧ r = (fsum (onB (rs_I zr 12) (rs_I zr 14) (rs_I zr 13) (rs_I zr 15) jp) (rs_I zr 2) 48 * ((rs_I zr 16) jp).toInt64) ∧ u = zr) ∨
  (∃ jp : Nat, pp = nI jp ∧ (jp < rs_n zr 0) ∧ (0 ≤ wh ∧ wh ≤ 1) ∧ wh = 1 ∧ r = (fsum (onB (rs_I zr 12) (rs_I zr 14) (rs_I zr 13) (rs_I zr 15) jp) (rs_I zr 3) 48 * ((rs_I zr 16) jp).toInt64) ∧ u = zr) ∨
  (∃ jp : Nat, pp = nI jp ∧ (jp < rs_n zr 0) ∧ (¬ (0 ≤ wh ∧ wh ≤ 1)) ∧ r = ((-9223372036854775808)) ∧ u = zr)
set_option maxHeartbeats 4000000 in
set_option maxRecDepth 100000 in
theorem M_foretold (l : Launch) (dC : Nat → ClassId) (dI : Nat → Nat → Nat) (cI cJ cZ : ClassId) (sz : Nat) (qm : Nat) (ad : Nat → Nat) (zr : RS2) (pp : Int32) (wh : Int32) (hI : invR zr) : Met l yX11_foretold wsX11_foretold ({ frames := 3, cells := 0, slots := 0, locals := 90 }) (pw (dC, dI) [(cI, .int), (cJ, .long), (cZ, .boolean)] (rW qm cI cJ cZ ad zr) sz [.ref qm, .int pp, .int wh]) (va_Ql (fun r (u : RS2) => invR u ∧ pR_foretold zr pp wh r u) (fun u t => bw (dC, dI) [(cI, .int), (cJ, .long), (cZ, .boolean)] (va_A (rW qm cI cJ cZ ad zr) sz) (rW qm cI cJ cZ ad u) t) (va_A (rW qm cI cJ cZ ad zr) sz)) 0 0 (va_A (rW qm cI cJ cZ ad zr) sz) := by
  refine pw_met (cc := cX11_foretold) (maxL := 3) (ret := (some .long)) (by decide) rfl (Nat.le_of_ble_eq_true rfl) ?_
  intro p e s m below meth c0 hx hb hr hml hown hlocks hnm hts hP0 hK hD0 hN hsz hA hS ls hl
  subst hsz
  have hP : va_P (dC, dI) vwCl [rcO qm ad zr, rcI cI ad zr 2 48, rcI cI ad zr 3 48, rcI cI ad zr 4 48, rcI cI ad zr 5 48, rcI cI ad zr 7 4, rcI cI ad zr 8 4, rcI cI ad zr 9 192, rcI cI ad zr 10 48, rcI cI ad zr 12 12, rcI cI ad zr 13 12, rcI cI ad zr 14 12, rcI cI ad zr 15 12, rcI cI ad zr 16 12, rcI cI ad zr 18 8, rcJ cJ ad zr 19 8, rcI cI ad zr 25 40, rcI cI ad zr 26 40, rcI cI ad zr 27 40, rcI cZ ad zr 28 40, rcJ cJ ad zr 29 40, rcJ cJ ad zr 30 40, rcJ cJ ad zr 31 40, rcJ cJ ad zr 32 40, rcJ cJ ad zr 33 40, rcI cI ad zr 35 80, rcI cI ad zr 36 80, rcI cI ad zr 37 80] s.heap := hP0
  have hD : va_D (va_A (rW qm cI cJ cZ ad zr) s.heap.size) [rcO qm ad zr, rcI cI ad zr 2 48, rcI cI ad zr 3 48, rcI cI ad zr 4 48, rcI cI ad zr 5 48, rcI cI ad zr 7 4, rcI cI ad zr 8 4, rcI cI ad zr 9 192, rcI cI ad zr 10 48, rcI cI ad zr 12 12, rcI cI ad zr 13 12, rcI cI ad zr 14 12, rcI cI ad zr 15 12, rcI cI ad zr 16 12, rcI cI ad zr 18 8, rcJ cJ ad zr 19 8, rcI cI ad zr 25 40, rcI cI ad zr 26 40, rcI cI ad zr 27 40, rcI cZ ad zr 28 40, rcJ cJ ad zr 29 40, rcJ cJ ad zr 30 40, rcJ cJ ad zr 31 40, rcJ cJ ad zr 32 40, rcJ cJ ad zr 33 40, rcI cI ad zr 35 80, rcI cI ad zr 36 80, rcI cI ad zr 37 80] := hD0
  obtain ⟨⟨hn0, hn1, hn2, hn3⟩, hfar, hlh, hss, hsold, htk, hpk⟩ := id hI
  have hl : lv_has ls 3 [(0, .ref qm), (1, .int pp), (2, .int wh)] := hl
  generalize hQ : MQ _ _ _ _ _ _ _ = Q
  refine lv_aload_n hx hb dX11_foretold_0 rfl (lv_at hl 0 rfl) ?_
  refine lv_iload_n hx hb dX11_foretold_1 rfl (lv_at hl 1 rfl) ?_
  have hPc := hP.sub (ws' := [rcO qm ad zr]) [0] rfl
  have hDc := hD.sub (ws' := [rcO qm ad zr]) [0] (by decide) rfl
  have hKc := hK.sub (tys' := []) [] rfl
  refine vp_callSi (va_Run.run (va_runV (As := [.int pp]) (rest := []) ⟨hx, hb, hml, hown, hts⟩ (r_X11_noPitch l dC dI  _ qm (.int (rs_i zr 0)) (.int (rs_i zr 1)) (.ref (ad 2)) (.ref (ad 3)) (.ref (ad 4)) (.ref (ad 5)) (.int (rs_i zr 6)) (.ref (ad 7)) (.ref (ad 8)) (.ref (ad 9)) (.ref (ad 10)) (.ref (ad 12)) (.ref (ad 13)) (.ref (ad 14)) (.ref (ad 15)) (.ref (ad 16)) (.int (nI (rs_n zr 1))) (.ref (ad 18)) (.ref (ad 19)) (.int (rs_i zr 20)) (.int (rs_i zr 21)) (.int (rs_i zr 22)) (.int (rs_i zr 23)) (.int (nI (rs_n zr 2))) (.ref (ad 25)) (.ref (ad 26)) (.ref (ad 27)) (.ref (ad 28)) (.ref (ad 29)) (.ref (ad 30)) (.ref (ad 31)) (.ref (ad 32)) (.ref (ad 33)) (.int (nI (rs_n zr 3))) (.ref (ad 35)) (.ref (ad 36)) (.ref (ad 37)) (.int (rs_i zr 38)) (nI (rs_n zr 0)) pp (rs_n zr 0) rfl (by omega)) (cwV 1 hts gX11_foretold_X11_noPitch rfl rfl rfl (by decide +kernel) ⟨Nat.le_of_ble_eq_true rfl, Nat.le_of_ble_eq_true rfl⟩) (pw_preV (va_recv hKc hPc (ci := 11) (q0 := 0) rfl rfl) hPc hKc hDc hN) rfl rfl hl.1 rfl (lv_room (Nat.le_of_ble_eq_true rfl)) dX11_foretold_2 ⟨Nat.le_of_ble_eq_true rfl, Nat.le_of_ble_eq_true rfl⟩)) (fun r1 hr1 => ?_)
  have hr1 : (r1 = 1 ∧ ∀ j, j < (rs_n zr 0) → pp ≠ nI j) ∨ (r1 = 0 ∧ ∃ j, j < (rs_n zr 0) ∧ pp = nI j) := hr1
  rcases hr1 with ⟨er1, hnojp⟩ | ⟨er1, jp, hjp, egjp⟩
  · subst er1
    refine lv_if_ne (tgt := 18) hx hb dX11_foretold_5 (by decide) (fun c2 => ?_) (fun c2 => ?_)
    · skip
      refine vp_callSl (va_Run.run (va_runS (As := []) (rest := []) ⟨hx, hb, hml, hown, hts⟩ (c_X11_lost l  ) (va_cwS 0 hts gX11_foretold_X11_lost rfl rfl rfl (by decide +kernel) ⟨Nat.le_of_ble_eq_true rfl, Nat.le_of_ble_eq_true rfl⟩) (p0_preS hN) rfl rfl hl.1 rfl (lv_room (Nat.le_of_ble_eq_true rfl)) dX11_foretold_18 ⟨Nat.le_of_ble_eq_true rfl, Nat.le_of_ble_eq_true rfl⟩)) (fun r3 hr3 => ?_)
      have hr3 : r3 = (-9223372036854775808) := hr3
      subst hr3
      refine lv_goto (tgt := 30) hx hb dX11_foretold_21 (by decide) ?_
      subst hQ
      exact W.lret (v := (-9223372036854775808)) hx hb hr (fun t ht hW => ⟨⟨(-9223372036854775808), zr, rfl, ⟨hI, (Or.inl ⟨hnojp, rfl, rfl⟩)⟩, (by rw [ht]; exact hP0), va_K.moved hW.alike hK, hD0⟩, (by rw [ht]; exact Nat.le_refl _), fun q _ _ => by rw [ht]⟩) (fun q h => absurd h List.not_mem_nil) dX11_foretold_30
    · exact absurd c2 (by decide)
  · subst er1
    subst egjp
    refine lv_if_ne (tgt := 18) hx hb dX11_foretold_5 (by decide) (fun c4 => ?_) (fun c4 => ?_)
    · exact absurd c4 (by decide)
    · skip
      refine lv_iload_n hx hb dX11_foretold_8 rfl (lv_at hl 2 rfl) ?_
      refine lv_i2l (v := wh.toInt64) hx hb dX11_foretold_9 rfl ?_
      refine lv_lconst (v := 0) hx hb dX11_foretold_10 (by decide) ?_
      refine lv_lconst (v := 1) hx hb dX11_foretold_11 (by decide) ?_
      refine vp_callSi (va_Run.run (va_runS (As := [.long wh.toInt64, .long 0, .long 1]) (rest := []) ⟨hx, hb, hml, hown, hts⟩ (c_X11_in l wh.toInt64 0 1 ) (va_cwS 3 hts gX11_foretold_X11_in rfl rfl rfl (by decide +kernel) ⟨Nat.le_of_ble_eq_true rfl, Nat.le_of_ble_eq_true rfl⟩) (p0_preS hN) rfl rfl hl.1 rfl (lv_room (Nat.le_of_ble_eq_true rfl)) dX11_foretold_12 ⟨Nat.le_of_ble_eq_true rfl, Nat.le_of_ble_eq_true rfl⟩)) (fun r5 hr5 => ?_)
      have hr5 : r5 = if 0 ≤ wh.toInt64 ∧ wh.toInt64 ≤ 1 then 1 else 0 := hr5
      have hr5 := hr5.trans (in_w _ 0 1 (by decide) (by decide))
      refine lv_if_ne (tgt := 24) hx hb dX11_foretold_15 (by decide) (fun c6 => ?_) (fun c6 => ?_)
      · skip
        have c6 := (fa_bool_prop hr5).2.mp c6
        refine lv_aload_n hx hb dX11_foretold_24 rfl (lv_at hl 0 rfl) ?_
        refine lv_iload_n hx hb dX11_foretold_25 rfl (lv_at hl 1 rfl) ?_
        refine lv_iload_n hx hb dX11_foretold_26 rfl (lv_at hl 2 rfl) ?_
        rcases k01 c6 with rfl | rfl
        · skip
          have hPc := hP.sub (ws' := [rcO qm ad zr, rcI cI ad zr 12 12, rcI cI ad zr 14 12, rcI cI ad zr 13 12, rcI cI ad zr 15 12, rcI cI ad zr 16 12, rcI cI ad zr 2 48]) [0, 9, 11, 10, 12, 13, 1] rfl
          have hDc := hD.sub (ws' := [rcO qm ad zr, rcI cI ad zr 12 12, rcI cI ad zr 14 12, rcI cI ad zr 13 12, rcI cI ad zr 15 12, rcI cI ad zr 16 12, rcI cI ad zr 2 48]) [0, 9, 11, 10, 12, 13, 1] (by decide) rfl
          have hKc := hK.sub (tys' := [(cI, .int)]) [0] rfl
          refine vp_callSl (va_Run.run (va_runV (As := [.int (nI jp), .int 0]) (rest := []) ⟨hx, hb, hml, hown, hts⟩ (r_foretoldOf_0 l dC dI cI _ qm (.int (rs_i zr 0)) (.int (rs_i zr 1)) (.ref (ad 3)) (.ref (ad 4)) (.ref (ad 5)) (.int (rs_i zr 6)) (.ref (ad 7)) (.ref (ad 8)) (.ref (ad 9)) (.ref (ad 10)) (.int (nI (rs_n zr 0))) (.int (nI (rs_n zr 1))) (.ref (ad 18)) (.ref (ad 19)) (.int (rs_i zr 20)) (.int (rs_i zr 21)) (.int (rs_i zr 22)) (.int (rs_i zr 23)) (.int (nI (rs_n zr 2))) (.ref (ad 25)) (.ref (ad 26)) (.ref (ad 27)) (.ref (ad 28)) (.ref (ad 29)) (.ref (ad 30)) (.ref (ad 31)) (.ref (ad 32)) (.ref (ad 33)) (.int (nI (rs_n zr 3))) (.ref (ad 35)) (.ref (ad 36)) (.ref (ad 37)) (.int (rs_i zr 38)) (ad 12) (ad 14) (ad 13) (ad 15) (ad 16) (ad 2) jp (rs_I zr 12) (rs_I zr 14) (rs_I zr 13) (rs_I zr 15) (rs_I zr 16) (rs_I zr 2) (by omega)) (cwV 2 hts gX11_foretold_X11_foretoldOf rfl rfl rfl (by decide +kernel) ⟨Nat.le_of_ble_eq_true rfl, Nat.le_of_ble_eq_true rfl⟩) (pw_preV (va_recv hKc hPc (ci := 11) (q0 := 0) rfl rfl) hPc hKc hDc hN) rfl rfl hl.1 rfl (lv_room (Nat.le_of_ble_eq_true rfl)) dX11_foretold_27 ⟨Nat.le_of_ble_eq_true rfl, Nat.le_of_ble_eq_true rfl⟩)) (fun r7 hr7 => ?_)
          have hr7 : r7 = fsum (onB (rs_I zr 12) (rs_I zr 14) (rs_I zr 13) (rs_I zr 15) jp) (rs_I zr 2) 48 * ((rs_I zr 16) jp).toInt64 := hr7
          have hr7 := hr7.symm
          subst hr7
          refine W.eq (g2 := F0 m 30 ls [.long (fsum (onB (rs_I zr 12) (rs_I zr 14) (rs_I zr 13) (rs_I zr 15) jp) (rs_I zr 2) 48 * ((rs_I zr 16) jp).toInt64)]) rfl ?_
          subst hQ
          exact W.lret (v := fsum (onB (rs_I zr 12) (rs_I zr 14) (rs_I zr 13) (rs_I zr 15) jp) (rs_I zr 2) 48 * ((rs_I zr 16) jp).toInt64) hx hb hr (fun t ht hW => ⟨⟨fsum (onB (rs_I zr 12) (rs_I zr 14) (rs_I zr 13) (rs_I zr 15) jp) (rs_I zr 2) 48 * ((rs_I zr 16) jp).toInt64, zr, rfl, ⟨hI, (Or.inr (Or.inl ⟨jp, rfl, hjp, c6, rfl, rfl, rfl⟩))⟩, (by rw [ht]; exact hP0), va_K.moved hW.alike hK, hD0⟩, (by rw [ht]; exact Nat.le_refl _), fun q _ _ => by rw [ht]⟩) (fun q h => absurd h List.not_mem_nil) dX11_foretold_30
        · skip
          have hPc := hP.sub (ws' := [rcO qm ad zr, rcI cI ad zr 12 12, rcI cI ad zr 14 12, rcI cI ad zr 13 12, rcI cI ad zr 15 12, rcI cI ad zr 16 12, rcI cI ad zr 3 48]) [0, 9, 11, 10, 12, 13, 2] rfl
          have hDc := hD.sub (ws' := [rcO qm ad zr, rcI cI ad zr 12 12, rcI cI ad zr 14 12, rcI cI ad zr 13 12, rcI cI ad zr 15 12, rcI cI ad zr 16 12, rcI cI ad zr 3 48]) [0, 9, 11, 10, 12, 13, 2] (by decide) rfl
          have hKc := hK.sub (tys' := [(cI, .int)]) [0] rfl
          refine vp_callSl (va_Run.run (va_runV (As := [.int (nI jp), .int 1]) (rest := []) ⟨hx, hb, hml, hown, hts⟩ (r_foretoldOf_1 l dC dI cI _ qm (.int (rs_i zr 0)) (.int (rs_i zr 1)) (.ref (ad 2)) (.ref (ad 4)) (.ref (ad 5)) (.int (rs_i zr 6)) (.ref (ad 7)) (.ref (ad 8)) (.ref (ad 9)) (.ref (ad 10)) (.int (nI (rs_n zr 0))) (.int (nI (rs_n zr 1))) (.ref (ad 18)) (.ref (ad 19)) (.int (rs_i zr 20)) (.int (rs_i zr 21)) (.int (rs_i zr 22)) (.int (rs_i zr 23)) (.int (nI (rs_n zr 2))) (.ref (ad 25)) (.ref (ad 26)) (.ref (ad 27)) (.ref (ad 28)) (.ref (ad 29)) (.ref (ad 30)) (.ref (ad 31)) (.ref (ad 32)) (.ref (ad 33)) (.int (nI (rs_n zr 3))) (.ref (ad 35)) (.ref (ad 36)) (.ref (ad 37)) (.int (rs_i zr 38)) (ad 12) (ad 14) (ad 13) (ad 15) (ad 16) (ad 3) jp (rs_I zr 12) (rs_I zr 14) (rs_I zr 13) (rs_I zr 15) (rs_I zr 16) (rs_I zr 3) (by omega)) (cwV 2 hts gX11_foretold_X11_foretoldOf rfl rfl rfl (by decide +kernel) ⟨Nat.le_of_ble_eq_true rfl, Nat.le_of_ble_eq_true rfl⟩) (pw_preV (va_recv hKc hPc (ci := 11) (q0 := 0) rfl rfl) hPc hKc hDc hN) rfl rfl hl.1 rfl (lv_room (Nat.le_of_ble_eq_true rfl)) dX11_foretold_27 ⟨Nat.le_of_ble_eq_true rfl, Nat.le_of_ble_eq_true rfl⟩)) (fun r8 hr8 => ?_)
          have hr8 : r8 = fsum (onB (rs_I zr 12) (rs_I zr 14) (rs_I zr 13) (rs_I zr 15) jp) (rs_I zr 3) 48 * ((rs_I zr 16) jp).toInt64 := hr8
          have hr8 := hr8.symm
          subst hr8
          refine W.eq (g2 := F0 m 30 ls [.long (fsum (onB (rs_I zr 12) (rs_I zr 14) (rs_I zr 13) (rs_I zr 15) jp) (rs_I zr 3) 48 * ((rs_I zr 16) jp).toInt64)]) rfl ?_
          subst hQ
          exact W.lret (v := fsum (onB (rs_I zr 12) (rs_I zr 14) (rs_I zr 13) (rs_I zr 15) jp) (rs_I zr 3) 48 * ((rs_I zr 16) jp).toInt64) hx hb hr (fun t ht hW => ⟨⟨fsum (onB (rs_I zr 12) (rs_I zr 14) (rs_I zr 13) (rs_I zr 15) jp) (rs_I zr 3) 48 * ((rs_I zr 16) jp).toInt64, zr, rfl, ⟨hI, (Or.inr (Or.inr (Or.inl ⟨jp, rfl, hjp, c6, rfl, rfl, rfl⟩)))⟩, (by rw [ht]; exact hP0), va_K.moved hW.alike hK, hD0⟩, (by rw [ht]; exact Nat.le_refl _), fun q _ _ => by rw [ht]⟩) (fun q h => absurd h List.not_mem_nil) dX11_foretold_30
      · skip
        have c6 := (fa_bool_prop hr5).1.mp c6
        refine vp_callSl (va_Run.run (va_runS (As := []) (rest := []) ⟨hx, hb, hml, hown, hts⟩ (c_X11_lost l  ) (va_cwS 0 hts gX11_foretold_X11_lost rfl rfl rfl (by decide +kernel) ⟨Nat.le_of_ble_eq_true rfl, Nat.le_of_ble_eq_true rfl⟩) (p0_preS hN) rfl rfl hl.1 rfl (lv_room (Nat.le_of_ble_eq_true rfl)) dX11_foretold_18 ⟨Nat.le_of_ble_eq_true rfl, Nat.le_of_ble_eq_true rfl⟩)) (fun r9 hr9 => ?_)
        have hr9 : r9 = (-9223372036854775808) := hr9
        subst hr9
        refine lv_goto (tgt := 30) hx hb dX11_foretold_21 (by decide) ?_
        subst hQ
        exact W.lret (v := (-9223372036854775808)) hx hb hr (fun t ht hW => ⟨⟨(-9223372036854775808), zr, rfl, ⟨hI, (Or.inr (Or.inr (Or.inr ⟨jp, rfl, hjp, c6, rfl, rfl⟩)))⟩, (by rw [ht]; exact hP0), va_K.moved hW.alike hK, hD0⟩, (by rw [ht]; exact Nat.le_refl _), fun q _ _ => by rw [ht]⟩) (fun q h => absurd h List.not_mem_nil) dX11_foretold_30
