def pR_suspect (zr : RS2) (ix : Int32) (r : Int32) (u : RS2) : Prop :=
  ((∀ q, q < rs_n zr 3 → rsus zr q = true → ix ≠ nI (fa_cnt (rsus zr) q)) ∧ r = ((-1)) ∧ u = zr) ∨
  (∃ i4 : Nat, (i4 < rs_n zr 3) ∧ (rsus zr i4 = true) ∧ (nI (fa_cnt (rsus zr) i4) = ix) ∧ r = (nI i4) ∧ u = zr)
set_option maxHeartbeats 4000000 in
set_option maxRecDepth 100000 in
theorem M_suspect (l : Launch) (dC : Nat → ClassId) (dI : Nat → Nat → Nat) (cI cJ cZ : ClassId) (sz : Nat) (qm : Nat) (ad : Nat → Nat) (zr : RS2) (ix : Int32) (hI : invR zr) : Met l yX11_suspect wsX11_suspect ({ frames := 3, cells := 0, slots := 0, locals := 90 }) (pw (dC, dI) [(cI, .int), (cJ, .long), (cZ, .boolean)] (rW qm cI cJ cZ ad zr) sz [.ref qm, .int ix]) (va_Qi (fun r (u : RS2) => invR u ∧ pR_suspect zr ix r u) (fun u t => bw (dC, dI) [(cI, .int), (cJ, .long), (cZ, .boolean)] (va_A (rW qm cI cJ cZ ad zr) sz) (rW qm cI cJ cZ ad u) t) (va_A (rW qm cI cJ cZ ad zr) sz)) 0 0 (va_A (rW qm cI cJ cZ ad zr) sz) := by
  refine pw_met (cc := cX11_suspect) (maxL := 4) (ret := (some .int)) (by decide) rfl (Nat.le_of_ble_eq_true rfl) ?_
  intro p e s m below meth c0 hx hb hr hml hown hlocks hnm hts hP0 hK hD0 hN hsz hA hS ls hl
  subst hsz
  have hP : va_P (dC, dI) vwCl [rcO qm ad zr, rcI cI ad zr 2 48, rcI cI ad zr 3 48, rcI cI ad zr 4 48, rcI cI ad zr 5 48, rcI cI ad zr 7 4, rcI cI ad zr 8 4, rcI cI ad zr 9 192, rcI cI ad zr 10 48, rcI cI ad zr 12 12, rcI cI ad zr 13 12, rcI cI ad zr 14 12, rcI cI ad zr 15 12, rcI cI ad zr 16 12, rcI cI ad zr 18 8, rcJ cJ ad zr 19 8, rcI cI ad zr 25 40, rcI cI ad zr 26 40, rcI cI ad zr 27 40, rcI cZ ad zr 28 40, rcJ cJ ad zr 29 40, rcJ cJ ad zr 30 40, rcJ cJ ad zr 31 40, rcJ cJ ad zr 32 40, rcJ cJ ad zr 33 40, rcI cI ad zr 35 80, rcI cI ad zr 36 80, rcI cI ad zr 37 80] s.heap := hP0
  have hD : va_D (va_A (rW qm cI cJ cZ ad zr) s.heap.size) [rcO qm ad zr, rcI cI ad zr 2 48, rcI cI ad zr 3 48, rcI cI ad zr 4 48, rcI cI ad zr 5 48, rcI cI ad zr 7 4, rcI cI ad zr 8 4, rcI cI ad zr 9 192, rcI cI ad zr 10 48, rcI cI ad zr 12 12, rcI cI ad zr 13 12, rcI cI ad zr 14 12, rcI cI ad zr 15 12, rcI cI ad zr 16 12, rcI cI ad zr 18 8, rcJ cJ ad zr 19 8, rcI cI ad zr 25 40, rcI cI ad zr 26 40, rcI cI ad zr 27 40, rcI cZ ad zr 28 40, rcJ cJ ad zr 29 40, rcJ cJ ad zr 30 40, rcJ cJ ad zr 31 40, rcJ cJ ad zr 32 40, rcJ cJ ad zr 33 40, rcI cI ad zr 35 80, rcI cI ad zr 36 80, rcI cI ad zr 37 80] := hD0
  obtain ⟨⟨hn0, hn1, hn2, hn3⟩, hfar, hlh, hss, hsold, htk, hpk⟩ := id hI
  have hl : lv_has ls 4 [(0, .ref qm), (1, .int ix)] := hl
  have hiX11 : ∀ w ∈ wsX110, w ∈ wsX11_suspect := by decide +kernel
  generalize hQ : MQ _ _ _ _ _ _ _ = Q
  refine lv_iconst (v := 0) hx hb dX11_suspect_0 (by decide) ?_
  refine lv_istore_n (lv' := [(2, .int 0), (0, .ref qm), (1, .int ix)]) hx hb dX11_suspect_1 rfl hl (by decide) rfl (fun ls hl => ?_)
  refine lv_iconst (v := 0) hx hb dX11_suspect_2 (by decide) ?_
  refine lv_istore_n (lv' := [(3, .int 0), (2, .int 0), (0, .ref qm), (1, .int ix)]) hx hb dX11_suspect_3 rfl hl (by decide) rfl (fun ls hl => ?_)
  have loop4 : ∀ (ni4 i4 : Nat) (ls : Array Slot), i4 ≤ (rs_n zr 3) → (rs_n zr 3) + 1 ≤ i4 + ni4 → (∀ q, q < i4 → rsus zr q = true → ix ≠ nI (fa_cnt (rsus zr) q)) → lv_has ls 4 [(3, .int (nI i4)), (2, .int (nI (fa_cnt (rsus zr) i4))), (0, .ref qm), (1, .int ix)] → W p l e ({ frames := 3, cells := 0, slots := 0, locals := 90 } : Room) s m ([.ref qm, .int ix] : List Value).toArray below meth c0 s.heap [] 0 0 Q (F0 m 4 ls []) := by
    intro ni4
    induction ni4 with
    | zero =>
      intro i4  ls h1 h2
      exact absurd h2 (by omega)
    | succ ni4 ihi4 =>
      intro i4  ls hlei4 hni4 hall hl
      refine lv_iload_n hx hb dX11_suspect_4 rfl (lv_at hl 0 rfl) ?_
      refine lv_aload_n hx hb dX11_suspect_5 rfl (lv_at hl 2 rfl) ?_
      refine va_get (D := (dC, dI)) (ci := 11) (v := .int (nI (rs_n zr 3))) (C := RX11) (T := TX11) (N := 39) hx hb hts hiX11 hown hK hP 0 rfl rfl 34 (by decide) (hts (.fieldLink RX11 217 "TributePitchesModel" "parcels" "I") (by decide +kernel)) (fun _ h9 => h9) rfl dX11_suspect_6 ?_
      refine lv_icmp_ge (tgt := 36) hx hb dX11_suspect_9 (by decide) (fun c1 => ?_) (fun c1 => ?_)
      · skip
        have hei4 : (rs_n zr 3) = i4 := (by have q := (nI_leI (a := (rs_n zr 3)) (b := i4) (by omega) (by omega)).mp c1; omega)
        subst hei4
        refine lv_iconst (v := (-1)) hx hb dX11_suspect_36 (by decide) ?_
        subst hQ
        exact W.iret (v := (-1)) hx hb hr (fun t ht hW => ⟨⟨(-1), zr, rfl, ⟨hI, (Or.inl ⟨hall, rfl, rfl⟩)⟩, (by rw [ht]; exact hP0), va_K.moved hW.alike hK, hD0⟩, (by rw [ht]; exact Nat.le_refl _), fun q _ _ => by rw [ht]⟩) (fun q h => absurd h List.not_mem_nil) dX11_suspect_37
      · skip
        have hlti4 : i4 < (rs_n zr 3) := (Nat.lt_or_ge i4 (rs_n zr 3)).elim id (fun q => absurd (nI_le q (by omega)) c1)
        refine lv_aload_n hx hb dX11_suspect_12 rfl (lv_at hl 2 rfl) ?_
        refine lv_iload_n hx hb dX11_suspect_13 rfl (lv_at hl 0 rfl) ?_
        have hPc := hP.sub (ws' := [rcO qm ad zr, rcI cI ad zr 12 12, rcI cI ad zr 14 12, rcI cI ad zr 13 12, rcI cI ad zr 15 12, rcI cI ad zr 3 48, rcI cI ad zr 26 40, rcI cI ad zr 35 80, rcI cI ad zr 37 80]) [0, 9, 11, 10, 12, 2, 17, 25, 27] rfl
        have hDc := hD.sub (ws' := [rcO qm ad zr, rcI cI ad zr 12 12, rcI cI ad zr 14 12, rcI cI ad zr 13 12, rcI cI ad zr 15 12, rcI cI ad zr 3 48, rcI cI ad zr 26 40, rcI cI ad zr 35 80, rcI cI ad zr 37 80]) [0, 9, 11, 10, 12, 2, 17, 25, 27] (by decide) rfl
        have hKc := hK.sub (tys' := [(cI, .int)]) [0] rfl
        refine vp_callSi (va_Run.run (va_runV (As := [.int (nI i4)]) (rest := []) ⟨hx, hb, hml, hown, hts⟩ (r_isSuspect l dC dI cI _ qm (.int (rs_i zr 0)) (.int (rs_i zr 1)) (.ref (ad 2)) (.ref (ad 4)) (.ref (ad 5)) (.int (rs_i zr 6)) (.ref (ad 7)) (.ref (ad 8)) (.ref (ad 9)) (.ref (ad 10)) (.int (nI (rs_n zr 0))) (.ref (ad 16)) (.int (nI (rs_n zr 1))) (.ref (ad 18)) (.ref (ad 19)) (.int (rs_i zr 20)) (.int (rs_i zr 21)) (.int (rs_i zr 22)) (.int (rs_i zr 23)) (.int (nI (rs_n zr 2))) (.ref (ad 25)) (.ref (ad 27)) (.ref (ad 28)) (.ref (ad 29)) (.ref (ad 30)) (.ref (ad 31)) (.ref (ad 32)) (.ref (ad 33)) (.int (nI (rs_n zr 3))) (.ref (ad 36)) (.int (rs_i zr 38)) (ad 12) (ad 14) (ad 13) (ad 15) (ad 3) (ad 26) (ad 35) (ad 37) i4 (rT zr i4) (rP zr i4) (rs_I zr 12) (rs_I zr 14) (rs_I zr 13) (rs_I zr 15) (rs_I zr 3) (rs_I zr 26) (rs_I zr 35) (rs_I zr 37) (by omega) (Nat.lt_of_lt_of_le (rtk hI hlti4).1 hn2) (Nat.lt_of_lt_of_le (rtk hI hlti4).2.2.1 hn0) (rtk hI hlti4).2.1 (rtk hI hlti4).2.2.2) (cwV 1 hts gX11_suspect_X11_isSuspect rfl rfl rfl (by decide +kernel) ⟨Nat.le_of_ble_eq_true rfl, Nat.le_of_ble_eq_true rfl⟩) (pw_preV (va_recv hKc hPc (ci := 11) (q0 := 0) rfl rfl) hPc hKc hDc hN) rfl rfl hl.1 rfl (lv_room (Nat.le_of_ble_eq_true rfl)) dX11_suspect_14 ⟨Nat.le_of_ble_eq_true rfl, Nat.le_of_ble_eq_true rfl⟩)) (fun r2 hr2 => ?_)
        have hr2 : r2 = if smax (onB (rs_I zr 12) (rs_I zr 14) (rs_I zr 13) (rs_I zr 15) (rP zr i4)) (rs_I zr 3) 48 < (rs_I zr 37) i4 then 1 else 0 := hr2
        have hr2 : r2 = if rsus zr i4 = true then 1 else 0 := by rw [hr2]; simp [rsus]
        refine lv_if_eq (tgt := 30) hx hb dX11_suspect_17 (by decide) (fun c3 => ?_) (fun c3 => ?_)
        · skip
          have c3 := (fa_bool_prop hr2).1.mp c3
          refine lv_iinc (v := nI (i4 + 1)) (lv' := [(3, .int (nI (i4 + 1))), (2, .int (nI (fa_cnt (rsus zr) i4))), (0, .ref qm), (1, .int ix)]) hx hb dX11_suspect_30 hl (k := 0) rfl (nI_1 i4) (by decide) rfl (fun ls hl => ?_)
          refine lv_goto (tgt := 4) hx hb dX11_suspect_33 (by decide) ?_
          have e9 : fa_cnt (rsus zr) (i4 + 1) = fa_cnt (rsus zr) i4 := fa_cnt_no (by simpa using c3)
          rw [← e9] at hl
          have hl : lv_has ls 4 [(3, .int (nI (i4 + 1))), (2, .int (nI (fa_cnt (rsus zr) (i4 + 1)))), (0, .ref qm), (1, .int ix)] := hl
          exact ihi4 (i4 + 1)  ls (by omega) (by omega) (fun q hq hs => (Nat.lt_or_ge q i4).elim (fun z => hall q z hs) (fun z => by have e8 : q = i4 := (by omega); rw [e8] at hs ⊢; exact absurd hs c3)) (lv_sub hl [0, 1, 2, 3] rfl)
        · skip
          have c3 := (fa_bool_prop hr2).2.mp c3
          refine lv_iload_n hx hb dX11_suspect_20 rfl (lv_at hl 1 rfl) ?_
          refine lv_iload_n hx hb dX11_suspect_21 rfl (lv_at hl 3 rfl) ?_
          refine lv_icmp_ne (tgt := 27) hx hb dX11_suspect_22 (by decide) (fun c4 => ?_) (fun c4 => ?_)
          · skip
            refine lv_iinc (v := nI (fa_cnt (rsus zr) i4 + 1)) (lv' := [(2, .int (nI (fa_cnt (rsus zr) i4 + 1))), (3, .int (nI i4)), (0, .ref qm), (1, .int ix)]) hx hb dX11_suspect_27 hl (k := 1) rfl (nI_1 _) (by decide) rfl (fun ls hl => ?_)
            refine lv_iinc (v := nI (i4 + 1)) (lv' := [(3, .int (nI (i4 + 1))), (2, .int (nI (fa_cnt (rsus zr) i4 + 1))), (0, .ref qm), (1, .int ix)]) hx hb dX11_suspect_30 hl (k := 1) rfl (nI_1 i4) (by decide) rfl (fun ls hl => ?_)
            refine lv_goto (tgt := 4) hx hb dX11_suspect_33 (by decide) ?_
            have e9 : fa_cnt (rsus zr) (i4 + 1) = fa_cnt (rsus zr) i4 + 1 := fa_cnt_yes c3
            rw [← e9] at hl
            have hl : lv_has ls 4 [(3, .int (nI (i4 + 1))), (2, .int (nI (fa_cnt (rsus zr) (i4 + 1)))), (0, .ref qm), (1, .int ix)] := hl
            exact ihi4 (i4 + 1)  ls (by omega) (by omega) (fun q hq hs => (Nat.lt_or_ge q i4).elim (fun z => hall q z hs) (fun z => by have e8 : q = i4 := (by omega); rw [e8] at hs ⊢; exact fun z => c4 z.symm)) (lv_sub hl [0, 1, 2, 3] rfl)
          · skip
            refine lv_iload_n hx hb dX11_suspect_25 rfl (lv_at hl 0 rfl) ?_
            subst hQ
            exact W.iret (v := nI i4) hx hb hr (fun t ht hW => ⟨⟨nI i4, zr, rfl, ⟨hI, (Or.inr ⟨i4, hlti4, c3, c4, rfl, rfl⟩)⟩, (by rw [ht]; exact hP0), va_K.moved hW.alike hK, hD0⟩, (by rw [ht]; exact Nat.le_refl _), fun q _ _ => by rw [ht]⟩) (fun q h => absurd h List.not_mem_nil) dX11_suspect_26
  exact loop4 ((rs_n zr 3) + 1 - 0) 0  ls (by omega) (by omega) (fun q hq => absurd hq (Nat.not_lt_zero q)) (lv_sub hl [0, 1, 2, 3] rfl)
