def pR_skill (zr : RS2) (g : Int32) (wh : Int32) (r : Int64) (u : RS2) : Prop :=
  ((∀ j, j < rs_n zr 1 → g ≠ nI j) ∧ r = ((-9223372036854775808)) ∧ u = zr) ∨
  (∃ jg : Nat, g = nI jg ∧ (jg < rs_n zr 1) ∧ (0 ≤ wh ∧ wh ≤ 1) ∧ (¬ (rkU zr (nI jg) (rs_n zr 2)) = 0) ∧ ∃ r9 : Int64, (∃ n, (gpr (rkU zr (nI jg) (rs_n zr 2)) (rkD zr (nI jg) (rs_n zr 2)) n).2 = 0 ∧ r9 = (gpr (rkU zr (nI jg) (rs_n zr 2)) (rkD zr (nI jg) (rs_n zr 2)) n).1) ∧ (¬ wh = 0) ∧ r = ((rkD zr (nI jg) (rs_n zr 2)) / r9) ∧ u = zr) ∨
  (∃ jg : Nat, g = nI jg ∧ (jg < rs_n zr 1) ∧ (0 ≤ wh ∧ wh ≤ 1) ∧ (¬ (rkU zr (nI jg) (rs_n zr 2)) = 0) ∧ ∃ r9 : Int64, (∃ n, (gpr (rkU zr (nI jg) (rs_n zr 2)) (rkD zr (nI jg) (rs_n zr 2)) n).2 = 0 ∧ r9 = (gpr (rkU zr (nI jg) (rs_n zr 2)) (rkD zr (nI jg) (rs_n zr 2)) n).1) ∧ (wh = 0) ∧ r = ((rkU zr (nI jg) (rs_n zr 2)) / r9) ∧ u = zr) ∨
  (∃ jg : Nat, g = nI jg ∧ (jg < rs_n zr 1) ∧ (0 ≤ wh ∧ wh ≤ 1) ∧ ((rkU zr (nI jg) (rs_n zr 2)) = 0) ∧ r = (wh.toInt64) ∧ u = zr) ∨
  (∃ jg : Nat, g = nI jg ∧ (jg < rs_n zr 1) ∧ (¬ (0 ≤ wh ∧ wh ≤ 1)) ∧ r = ((-9223372036854775808)) ∧ u = zr)
set_option maxHeartbeats 4000000 in
set_option maxRecDepth 100000 in
theorem M_skill (l : Launch) (dC : Nat → ClassId) (dI : Nat → Nat → Nat) (cI cJ cZ : ClassId) (sz : Nat) (qm : Nat) (ad : Nat → Nat) (zr : RS2) (g : Int32) (wh : Int32) (hI : invR zr) : Met l yX11_skill wsX11_skill ({ frames := 3, cells := 0, slots := 0, locals := 90 }) (pw (dC, dI) [(cI, .int), (cJ, .long), (cZ, .boolean)] (rW qm cI cJ cZ ad zr) sz [.ref qm, .int g, .int wh]) (va_Ql (fun r (u : RS2) => invR u ∧ pR_skill zr g wh r u) (fun u t => bw (dC, dI) [(cI, .int), (cJ, .long), (cZ, .boolean)] (va_A (rW qm cI cJ cZ ad zr) sz) (rW qm cI cJ cZ ad u) t) (va_A (rW qm cI cJ cZ ad zr) sz)) 0 0 (va_A (rW qm cI cJ cZ ad zr) sz) := by
  refine pw_met (cc := cX11_skill) (maxL := 10) (ret := (some .long)) (by decide) rfl (Nat.le_of_ble_eq_true rfl) ?_
  intro p e s m below meth c0 hx hb hr hml hown hlocks hnm hts hP0 hK hD0 hN hsz hA hS ls hl
  subst hsz
  have hP : va_P (dC, dI) vwCl [rcO qm ad zr, rcI cI ad zr 2 48, rcI cI ad zr 3 48, rcI cI ad zr 4 48, rcI cI ad zr 5 48, rcI cI ad zr 7 4, rcI cI ad zr 8 4, rcI cI ad zr 9 192, rcI cI ad zr 10 48, rcI cI ad zr 12 12, rcI cI ad zr 13 12, rcI cI ad zr 14 12, rcI cI ad zr 15 12, rcI cI ad zr 16 12, rcI cI ad zr 18 8, rcJ cJ ad zr 19 8, rcI cI ad zr 25 40, rcI cI ad zr 26 40, rcI cI ad zr 27 40, rcI cZ ad zr 28 40, rcJ cJ ad zr 29 40, rcJ cJ ad zr 30 40, rcJ cJ ad zr 31 40, rcJ cJ ad zr 32 40, rcJ cJ ad zr 33 40, rcI cI ad zr 35 80, rcI cI ad zr 36 80, rcI cI ad zr 37 80] s.heap := hP0
  have hD : va_D (va_A (rW qm cI cJ cZ ad zr) s.heap.size) [rcO qm ad zr, rcI cI ad zr 2 48, rcI cI ad zr 3 48, rcI cI ad zr 4 48, rcI cI ad zr 5 48, rcI cI ad zr 7 4, rcI cI ad zr 8 4, rcI cI ad zr 9 192, rcI cI ad zr 10 48, rcI cI ad zr 12 12, rcI cI ad zr 13 12, rcI cI ad zr 14 12, rcI cI ad zr 15 12, rcI cI ad zr 16 12, rcI cI ad zr 18 8, rcJ cJ ad zr 19 8, rcI cI ad zr 25 40, rcI cI ad zr 26 40, rcI cI ad zr 27 40, rcI cZ ad zr 28 40, rcJ cJ ad zr 29 40, rcJ cJ ad zr 30 40, rcJ cJ ad zr 31 40, rcJ cJ ad zr 32 40, rcJ cJ ad zr 33 40, rcI cI ad zr 35 80, rcI cI ad zr 36 80, rcI cI ad zr 37 80] := hD0
  obtain ⟨⟨hn0, hn1, hn2, hn3⟩, hfar, hlh, hss, hsold, htk, hpk⟩ := id hI
  have hl : lv_has ls 10 [(0, .ref qm), (1, .int g), (2, .int wh)] := hl
  have hiX11 : ∀ w ∈ wsX110, w ∈ wsX11_skill := by decide +kernel
  generalize hQ : MQ _ _ _ _ _ _ _ = Q
  refine lv_aload_n hx hb dX11_skill_0 rfl (lv_at hl 0 rfl) ?_
  refine lv_iload_n hx hb dX11_skill_1 rfl (lv_at hl 1 rfl) ?_
  have hPc := hP.sub (ws' := [rcO qm ad zr]) [0] rfl
  have hDc := hD.sub (ws' := [rcO qm ad zr]) [0] (by decide) rfl
  have hKc := hK.sub (tys' := []) [] rfl
  refine vp_callSi (va_Run.run (va_runV (As := [.int g]) (rest := []) ⟨hx, hb, hml, hown, hts⟩ (r_X11_noGang l dC dI  _ qm (.int (rs_i zr 0)) (.int (rs_i zr 1)) (.ref (ad 2)) (.ref (ad 3)) (.ref (ad 4)) (.ref (ad 5)) (.int (rs_i zr 6)) (.ref (ad 7)) (.ref (ad 8)) (.ref (ad 9)) (.ref (ad 10)) (.int (nI (rs_n zr 0))) (.ref (ad 12)) (.ref (ad 13)) (.ref (ad 14)) (.ref (ad 15)) (.ref (ad 16)) (.ref (ad 18)) (.ref (ad 19)) (.int (rs_i zr 20)) (.int (rs_i zr 21)) (.int (rs_i zr 22)) (.int (rs_i zr 23)) (.int (nI (rs_n zr 2))) (.ref (ad 25)) (.ref (ad 26)) (.ref (ad 27)) (.ref (ad 28)) (.ref (ad 29)) (.ref (ad 30)) (.ref (ad 31)) (.ref (ad 32)) (.ref (ad 33)) (.int (nI (rs_n zr 3))) (.ref (ad 35)) (.ref (ad 36)) (.ref (ad 37)) (.int (rs_i zr 38)) (nI (rs_n zr 1)) g (rs_n zr 1) rfl (by omega)) (cwV 1 hts gX11_skill_X11_noGang rfl rfl rfl (by decide +kernel) ⟨Nat.le_of_ble_eq_true rfl, Nat.le_of_ble_eq_true rfl⟩) (pw_preV (va_recv hKc hPc (ci := 11) (q0 := 0) rfl rfl) hPc hKc hDc hN) rfl rfl hl.1 rfl (lv_room (Nat.le_of_ble_eq_true rfl)) dX11_skill_2 ⟨Nat.le_of_ble_eq_true rfl, Nat.le_of_ble_eq_true rfl⟩)) (fun r1 hr1 => ?_)
  have hr1 : (r1 = 1 ∧ ∀ j, j < (rs_n zr 1) → g ≠ nI j) ∨ (r1 = 0 ∧ ∃ j, j < (rs_n zr 1) ∧ g = nI j) := hr1
  rcases hr1 with ⟨er1, hnojg⟩ | ⟨er1, jg, hjg, egjg⟩
  · subst er1
    refine lv_if_ne (tgt := 18) hx hb dX11_skill_5 (by decide) (fun c2 => ?_) (fun c2 => ?_)
    · skip
      refine vp_callSl (va_Run.run (va_runS (As := []) (rest := []) ⟨hx, hb, hml, hown, hts⟩ (c_X11_lost l  ) (va_cwS 0 hts gX11_skill_X11_lost rfl rfl rfl (by decide +kernel) ⟨Nat.le_of_ble_eq_true rfl, Nat.le_of_ble_eq_true rfl⟩) (p0_preS hN) rfl rfl hl.1 rfl (lv_room (Nat.le_of_ble_eq_true rfl)) dX11_skill_18 ⟨Nat.le_of_ble_eq_true rfl, Nat.le_of_ble_eq_true rfl⟩)) (fun r3 hr3 => ?_)
      have hr3 : r3 = (-9223372036854775808) := hr3
      subst hr3
      subst hQ
      exact W.lret (v := (-9223372036854775808)) hx hb hr (fun t ht hW => ⟨⟨(-9223372036854775808), zr, rfl, ⟨hI, (Or.inl ⟨hnojg, rfl, rfl⟩)⟩, (by rw [ht]; exact hP0), va_K.moved hW.alike hK, hD0⟩, (by rw [ht]; exact Nat.le_refl _), fun q _ _ => by rw [ht]⟩) (fun q h => absurd h List.not_mem_nil) dX11_skill_21
    · exact absurd c2 (by decide)
  · subst er1
    subst egjg
    refine lv_if_ne (tgt := 18) hx hb dX11_skill_5 (by decide) (fun c4 => ?_) (fun c4 => ?_)
    · exact absurd c4 (by decide)
    · skip
      refine lv_iload_n hx hb dX11_skill_8 rfl (lv_at hl 2 rfl) ?_
      refine lv_i2l (v := wh.toInt64) hx hb dX11_skill_9 rfl ?_
      refine lv_lconst (v := 0) hx hb dX11_skill_10 (by decide) ?_
      refine lv_lconst (v := 1) hx hb dX11_skill_11 (by decide) ?_
      refine vp_callSi (va_Run.run (va_runS (As := [.long wh.toInt64, .long 0, .long 1]) (rest := []) ⟨hx, hb, hml, hown, hts⟩ (c_X11_in l wh.toInt64 0 1 ) (va_cwS 3 hts gX11_skill_X11_in rfl rfl rfl (by decide +kernel) ⟨Nat.le_of_ble_eq_true rfl, Nat.le_of_ble_eq_true rfl⟩) (p0_preS hN) rfl rfl hl.1 rfl (lv_room (Nat.le_of_ble_eq_true rfl)) dX11_skill_12 ⟨Nat.le_of_ble_eq_true rfl, Nat.le_of_ble_eq_true rfl⟩)) (fun r5 hr5 => ?_)
      have hr5 : r5 = if 0 ≤ wh.toInt64 ∧ wh.toInt64 ≤ 1 then 1 else 0 := hr5
      have hr5 := hr5.trans (in_w _ 0 1 (by decide) (by decide))
      refine lv_if_ne (tgt := 22) hx hb dX11_skill_15 (by decide) (fun c6 => ?_) (fun c6 => ?_)
      · skip
        have c6 := (fa_bool_prop hr5).2.mp c6
        refine lv_lconst (v := 0) hx hb dX11_skill_22 (by decide) ?_
        refine lv_lstore_n (lv' := [(3, .long 0), (0, .ref qm), (1, .int (nI jg)), (2, .int wh)]) hx hb dX11_skill_23 rfl hl (by decide) rfl (fun ls hl => ?_)
        refine lv_lconst (v := 0) hx hb dX11_skill_24 (by decide) ?_
        refine lv_lstore (lv' := [(5, .long 0), (3, .long 0), (0, .ref qm), (1, .int (nI jg)), (2, .int wh)]) hx hb dX11_skill_25 hl (by decide) rfl (fun ls hl => ?_)
        refine lv_iconst (v := 0) hx hb dX11_skill_27 (by decide) ?_
        refine lv_istore (lv' := [(7, .int 0), (5, .long 0), (3, .long 0), (0, .ref qm), (1, .int (nI jg)), (2, .int wh)]) hx hb dX11_skill_28 hl (by decide) rfl (fun ls hl => ?_)
        have loop30 : ∀ (ni30 i30 : Nat) (ls : Array Slot), i30 ≤ (rs_n zr 2) → (rs_n zr 2) + 1 ≤ i30 + ni30 → lv_has ls 10 [(7, .int (nI i30)), (5, .long (rkD zr (nI jg) i30)), (3, .long (rkU zr (nI jg) i30)), (0, .ref qm), (1, .int (nI jg)), (2, .int wh)] → W p l e ({ frames := 3, cells := 0, slots := 0, locals := 90 } : Room) s m ([.ref qm, .int (nI jg), .int wh] : List Value).toArray below meth c0 s.heap [] 0 0 Q (F0 m 30 ls []) := by
          intro ni30
          induction ni30 with
          | zero =>
            intro i30  ls h1 h2
            exact absurd h2 (by omega)
          | succ ni30 ihi30 =>
            intro i30  ls hlei30 hni30  hl
            refine lv_iload hx hb dX11_skill_30 (lv_at hl 0 rfl) ?_
            refine lv_aload_n hx hb dX11_skill_32 rfl (lv_at hl 3 rfl) ?_
            refine va_get (D := (dC, dI)) (ci := 11) (v := .int (nI (rs_n zr 2))) (C := RX11) (T := TX11) (N := 39) hx hb hts hiX11 hown hK hP 0 rfl rfl 24 (by decide) (hts (.fieldLink RX11 188 "TributePitchesModel" "takes" "I") (by decide +kernel)) (fun _ h9 => h9) rfl dX11_skill_33 ?_
            refine lv_icmp_ge (tgt := 116) hx hb dX11_skill_36 (by decide) (fun c7 => ?_) (fun c7 => ?_)
            · skip
              have hei30 : (rs_n zr 2) = i30 := (by have q := (nI_leI (a := (rs_n zr 2)) (b := i30) (by omega) (by omega)).mp c7; omega)
              subst hei30
              refine lv_lload_n hx hb dX11_skill_116 rfl (lv_at hl 2 rfl) ?_
              refine lv_lconst (v := 0) hx hb dX11_skill_117 (by decide) ?_
              refine W.lcmp hx hb dX11_skill_118 ?_
              refine lv_if_ne (tgt := 125) hx hb dX11_skill_119 (by decide) (fun c8 => ?_) (fun c8 => ?_)
              · skip
                have c8 := fun h => c8 ((lg_cmp_eq _ _).mpr h)
                refine lv_lload_n hx hb dX11_skill_125 rfl (lv_at hl 2 rfl) ?_
                refine lv_lload hx hb dX11_skill_126 (lv_at hl 1 rfl) ?_
                refine vp_callSl (va_Run.run (va_runS (As := [.long (rkU zr (nI jg) (rs_n zr 2)), .long (rkD zr (nI jg) (rs_n zr 2))]) (rest := []) ⟨hx, hb, hml, hown, hts⟩ (r_common l (rkU zr (nI jg) (rs_n zr 2)) (rkD zr (nI jg) (rs_n zr 2)) ) (va_cwS 2 hts gX11_skill_X11_common rfl rfl rfl (by decide +kernel) ⟨Nat.le_of_ble_eq_true rfl, Nat.le_of_ble_eq_true rfl⟩) (p0_preS hN) rfl rfl hl.1 rfl (lv_room (Nat.le_of_ble_eq_true rfl)) dX11_skill_128 ⟨Nat.le_of_ble_eq_true rfl, Nat.le_of_ble_eq_true rfl⟩)) (fun r9 hr9 => ?_)
                have hr9 : ∃ n, (gpr (rkU zr (nI jg) (rs_n zr 2)) (rkD zr (nI jg) (rs_n zr 2)) n).2 = 0 ∧ r9 = (gpr (rkU zr (nI jg) (rs_n zr 2)) (rkD zr (nI jg) (rs_n zr 2)) n).1 := hr9
                refine lv_lstore (lv' := [(7, .long r9), (5, .long (rkD zr (nI jg) (rs_n zr 2))), (3, .long (rkU zr (nI jg) (rs_n zr 2))), (0, .ref qm), (1, .int (nI jg)), (2, .int wh)]) hx hb dX11_skill_131 hl (by decide) rfl (fun ls hl => ?_)
                refine lv_iload_n hx hb dX11_skill_133 rfl (lv_at hl 5 rfl) ?_
                refine lv_if_ne (tgt := 144) hx hb dX11_skill_134 (by decide) (fun c10 => ?_) (fun c10 => ?_)
                · skip
                  refine lv_lload hx hb dX11_skill_144 (lv_at hl 1 rfl) ?_
                  refine lv_lload hx hb dX11_skill_146 (lv_at hl 0 rfl) ?_
                  refine lv_ldiv hx hb dX11_skill_148 (gpr_nz c8 hr9) ?_
                  subst hQ
                  exact W.lret (v := (rkD zr (nI jg) (rs_n zr 2)) / r9) hx hb hr (fun t ht hW => ⟨⟨(rkD zr (nI jg) (rs_n zr 2)) / r9, zr, rfl, ⟨hI, (Or.inr (Or.inl ⟨jg, rfl, hjg, c6, c8, r9, hr9, c10, rfl, rfl⟩))⟩, (by rw [ht]; exact hP0), va_K.moved hW.alike hK, hD0⟩, (by rw [ht]; exact Nat.le_refl _), fun q _ _ => by rw [ht]⟩) (fun q h => absurd h List.not_mem_nil) dX11_skill_149
                · skip
                  refine lv_lload_n hx hb dX11_skill_137 rfl (lv_at hl 2 rfl) ?_
                  refine lv_lload hx hb dX11_skill_138 (lv_at hl 0 rfl) ?_
                  refine lv_ldiv hx hb dX11_skill_140 (gpr_nz c8 hr9) ?_
                  refine lv_goto (tgt := 149) hx hb dX11_skill_141 (by decide) ?_
                  subst hQ
                  exact W.lret (v := (rkU zr (nI jg) (rs_n zr 2)) / r9) hx hb hr (fun t ht hW => ⟨⟨(rkU zr (nI jg) (rs_n zr 2)) / r9, zr, rfl, ⟨hI, (Or.inr (Or.inr (Or.inl ⟨jg, rfl, hjg, c6, c8, r9, hr9, c10, rfl, rfl⟩)))⟩, (by rw [ht]; exact hP0), va_K.moved hW.alike hK, hD0⟩, (by rw [ht]; exact Nat.le_refl _), fun q _ _ => by rw [ht]⟩) (fun q h => absurd h List.not_mem_nil) dX11_skill_149
              · skip
                have c8 := (lg_cmp_eq _ _).mp c8
                refine lv_iload_n hx hb dX11_skill_122 rfl (lv_at hl 5 rfl) ?_
                refine lv_i2l (v := wh.toInt64) hx hb dX11_skill_123 rfl ?_
                subst hQ
                exact W.lret (v := wh.toInt64) hx hb hr (fun t ht hW => ⟨⟨wh.toInt64, zr, rfl, ⟨hI, (Or.inr (Or.inr (Or.inr (Or.inl ⟨jg, rfl, hjg, c6, c8, rfl, rfl⟩))))⟩, (by rw [ht]; exact hP0), va_K.moved hW.alike hK, hD0⟩, (by rw [ht]; exact Nat.le_refl _), fun q _ _ => by rw [ht]⟩) (fun q h => absurd h List.not_mem_nil) dX11_skill_124
            · skip
              have hlti30 : i30 < (rs_n zr 2) := (Nat.lt_or_ge i30 (rs_n zr 2)).elim id (fun q => absurd (nI_le q (by omega)) c7)
              refine lv_aload_n hx hb dX11_skill_39 rfl (lv_at hl 3 rfl) ?_
              refine va_get (D := (dC, dI)) (ci := 11) (v := .ref (ad 29)) (C := RX11) (T := TX11) (N := 39) hx hb hts hiX11 hown hK hP 0 rfl rfl 29 (by decide) (hts (.fieldLink RX11 69 "TributePitchesModel" "least" "[J") (by decide +kernel)) (fun _ h9 => h9) rfl dX11_skill_40 ?_
              refine lv_iload hx hb dX11_skill_43 (lv_at hl 0 rfl) ?_
              refine va_lald hx hb hK hP 20 1 rfl rfl (vp_in_nI (by omega) (by omega)) dX11_skill_45 ?_
              refine lv_topl (fun v11 ev11 => ?_)
              have ev11 : v11 = (rs_L zr 29) i30 := by rw [ev11]; rw [nI_clamp (by omega)]
              subst ev11
              refine lv_aload_n hx hb dX11_skill_46 rfl (lv_at hl 3 rfl) ?_
              refine va_get (D := (dC, dI)) (ci := 11) (v := .ref (ad 30)) (C := RX11) (T := TX11) (N := 39) hx hb hts hiX11 hown hK hP 0 rfl rfl 30 (by decide) (hts (.fieldLink RX11 72 "TributePitchesModel" "greatest" "[J") (by decide +kernel)) (fun _ h9 => h9) rfl dX11_skill_47 ?_
              refine lv_iload hx hb dX11_skill_50 (lv_at hl 0 rfl) ?_
              refine va_lald hx hb hK hP 21 1 rfl rfl (vp_in_nI (by omega) (by omega)) dX11_skill_52 ?_
              refine lv_topl (fun v12 ev12 => ?_)
              have ev12 : v12 = (rs_L zr 30) i30 := by rw [ev12]; rw [nI_clamp (by omega)]
              subst ev12
              refine lv_ladd hx hb dX11_skill_53 ?_
              refine lv_lstore (lv' := [(8, .long (((rs_L zr 29) i30) + ((rs_L zr 30) i30))), (7, .int (nI i30)), (5, .long (rkD zr (nI jg) i30)), (3, .long (rkU zr (nI jg) i30)), (0, .ref qm), (1, .int (nI jg)), (2, .int wh)]) hx hb dX11_skill_54 hl (by decide) rfl (fun ls hl => ?_)
              refine lv_aload_n hx hb dX11_skill_56 rfl (lv_at hl 4 rfl) ?_
              refine va_get (D := (dC, dI)) (ci := 11) (v := .ref (ad 25)) (C := RX11) (T := TX11) (N := 39) hx hb hts hiX11 hown hK hP 0 rfl rfl 25 (by decide) (hts (.fieldLink RX11 56 "TributePitchesModel" "gangOf" "[I") (by decide +kernel)) (fun _ h9 => h9) rfl dX11_skill_57 ?_
              refine lv_iload hx hb dX11_skill_60 (lv_at hl 1 rfl) ?_
              refine va_iald hx hb hK hP 16 0 rfl rfl (vp_in_nI (by omega) (by omega)) dX11_skill_62 ?_
              refine lv_topi (fun v13 ev13 => ?_)
              have ev13 : v13 = (rs_I zr 25) i30 := by rw [ev13]; rw [nI_clamp (by omega)]
              subst ev13
              refine lv_iload_n hx hb dX11_skill_63 rfl (lv_at hl 5 rfl) ?_
              refine lv_icmp_ne (tgt := 110) hx hb dX11_skill_64 (by decide) (fun c14 => ?_) (fun c14 => ?_)
              · skip
                refine lv_iinc (v := nI (i30 + 1)) (lv' := [(7, .int (nI (i30 + 1))), (8, .long (((rs_L zr 29) i30) + ((rs_L zr 30) i30))), (5, .long (rkD zr (nI jg) i30)), (3, .long (rkU zr (nI jg) i30)), (0, .ref qm), (1, .int (nI jg)), (2, .int wh)]) hx hb dX11_skill_110 hl (k := 1) rfl (nI_1 i30) (by decide) rfl (fun ls hl => ?_)
                refine lv_goto (tgt := 30) hx hb dX11_skill_113 (by decide) ?_
                have e3 : rkU zr (nI jg) (i30 + 1) = rkU zr (nI jg) i30 := by rw [rkU]; simp [c14]
                have e5 : rkD zr (nI jg) (i30 + 1) = rkD zr (nI jg) i30 := by rw [rkD]; simp [c14]
                rw [← e3, ← e5] at hl
                have hl : lv_has ls 10 [(7, .int (nI (i30 + 1))), (8, .long (((rs_L zr 29) i30) + ((rs_L zr 30) i30))), (5, .long (rkD zr (nI jg) (i30 + 1))), (3, .long (rkU zr (nI jg) (i30 + 1))), (0, .ref qm), (1, .int (nI jg)), (2, .int wh)] := hl
                exact ihi30 (i30 + 1)  ls (by omega) (by omega)  (lv_sub hl [0, 2, 3, 4, 5, 6] rfl)
              · skip
                refine lv_aload_n hx hb dX11_skill_67 rfl (lv_at hl 4 rfl) ?_
                refine va_get (D := (dC, dI)) (ci := 11) (v := .ref (ad 28)) (C := RX11) (T := TX11) (N := 39) hx hb hts hiX11 hown hK hP 0 rfl rfl 28 (by decide) (hts (.fieldLink RX11 65 "TributePitchesModel" "isSettled" "[Z") (by decide +kernel)) (fun _ h9 => h9) rfl dX11_skill_68 ?_
                refine lv_iload hx hb dX11_skill_71 (lv_at hl 1 rfl) ?_
                refine va_zald hx hb hK hP 19 2 rfl rfl (vp_in_nI (by omega) (by omega)) dX11_skill_73 ?_
                refine lv_topi (fun v15 ev15 => ?_)
                have ev15 : v15 = (rs_I zr 28) i30 := by rw [ev15]; rw [nI_clamp (by omega)]
                subst ev15
                refine lv_if_eq (tgt := 110) hx hb dX11_skill_74 (by decide) (fun c16 => ?_) (fun c16 => ?_)
                · skip
                  refine lv_iinc (v := nI (i30 + 1)) (lv' := [(7, .int (nI (i30 + 1))), (8, .long (((rs_L zr 29) i30) + ((rs_L zr 30) i30))), (5, .long (rkD zr (nI jg) i30)), (3, .long (rkU zr (nI jg) i30)), (0, .ref qm), (1, .int (nI jg)), (2, .int wh)]) hx hb dX11_skill_110 hl (k := 1) rfl (nI_1 i30) (by decide) rfl (fun ls hl => ?_)
                  refine lv_goto (tgt := 30) hx hb dX11_skill_113 (by decide) ?_
                  have e3 : rkU zr (nI jg) (i30 + 1) = rkU zr (nI jg) i30 := by rw [rkU]; simp [c14, c16]
                  have e5 : rkD zr (nI jg) (i30 + 1) = rkD zr (nI jg) i30 := by rw [rkD]; simp [c14, c16]
                  rw [← e3, ← e5] at hl
                  have hl : lv_has ls 10 [(7, .int (nI (i30 + 1))), (8, .long (((rs_L zr 29) i30) + ((rs_L zr 30) i30))), (5, .long (rkD zr (nI jg) (i30 + 1))), (3, .long (rkU zr (nI jg) (i30 + 1))), (0, .ref qm), (1, .int (nI jg)), (2, .int wh)] := hl
                  exact ihi30 (i30 + 1)  ls (by omega) (by omega)  (lv_sub hl [0, 2, 3, 4, 5, 6] rfl)
                · skip
                  refine lv_lload hx hb dX11_skill_77 (lv_at hl 0 rfl) ?_
                  refine lv_lconst (v := 0) hx hb dX11_skill_79 (by decide) ?_
                  refine W.lcmp hx hb dX11_skill_80 ?_
                  refine lv_if_le (tgt := 110) hx hb dX11_skill_81 (by decide) (fun c17 => ?_) (fun c17 => ?_)
                  · skip
                    have c17 := (lg_cmp_le _ _).mp c17
                    refine lv_iinc (v := nI (i30 + 1)) (lv' := [(7, .int (nI (i30 + 1))), (8, .long (((rs_L zr 29) i30) + ((rs_L zr 30) i30))), (5, .long (rkD zr (nI jg) i30)), (3, .long (rkU zr (nI jg) i30)), (0, .ref qm), (1, .int (nI jg)), (2, .int wh)]) hx hb dX11_skill_110 hl (k := 1) rfl (nI_1 i30) (by decide) rfl (fun ls hl => ?_)
                    refine lv_goto (tgt := 30) hx hb dX11_skill_113 (by decide) ?_
                    have e3 : rkU zr (nI jg) (i30 + 1) = rkU zr (nI jg) i30 := by rw [rkU]; simp [c14, c16, Int64.not_lt.mpr c17]
                    have e5 : rkD zr (nI jg) (i30 + 1) = rkD zr (nI jg) i30 := by rw [rkD]; simp [c14, c16, Int64.not_lt.mpr c17]
                    rw [← e3, ← e5] at hl
                    have hl : lv_has ls 10 [(7, .int (nI (i30 + 1))), (8, .long (((rs_L zr 29) i30) + ((rs_L zr 30) i30))), (5, .long (rkD zr (nI jg) (i30 + 1))), (3, .long (rkU zr (nI jg) (i30 + 1))), (0, .ref qm), (1, .int (nI jg)), (2, .int wh)] := hl
                    exact ihi30 (i30 + 1)  ls (by omega) (by omega)  (lv_sub hl [0, 2, 3, 4, 5, 6] rfl)
                  · skip
                    have c17 := fun h => c17 ((lg_cmp_le _ _).mpr h)
                    refine lv_lload_n hx hb dX11_skill_84 rfl (lv_at hl 3 rfl) ?_
                    refine lv_lload hx hb dX11_skill_85 (lv_at hl 0 rfl) ?_
                    refine lv_ldc2 (v := 2) hx hb hown (hts (.constantLong RX11 151 (2)) (by decide +kernel)) dX11_skill_87 ?_
                    refine lv_lmul hx hb dX11_skill_90 ?_
                    refine lv_aload_n hx hb dX11_skill_91 rfl (lv_at hl 4 rfl) ?_
                    refine lv_iload hx hb dX11_skill_92 (lv_at hl 1 rfl) ?_
                    have hPc := hP.sub (ws' := [rcO qm ad zr, rcI cI ad zr 35 80, rcI cI ad zr 36 80, rcI cI ad zr 37 80]) [0, 25, 26, 27] rfl
                    have hDc := hD.sub (ws' := [rcO qm ad zr, rcI cI ad zr 35 80, rcI cI ad zr 36 80, rcI cI ad zr 37 80]) [0, 25, 26, 27] (by decide) rfl
                    have hKc := hK.sub (tys' := [(cI, .int)]) [0] rfl
                    refine vp_callSl (va_Run.run (va_runV (As := [.int (nI i30)]) (rest := [.long ((((rs_L zr 29) i30) + ((rs_L zr 30) i30)) * 2), .long (rkU zr (nI jg) i30)]) ⟨hx, hb, hml, hown, hts⟩ (r_X11_worthOf l dC dI cI _ qm (.int (rs_i zr 0)) (.int (rs_i zr 1)) (.ref (ad 2)) (.ref (ad 3)) (.ref (ad 4)) (.ref (ad 5)) (.int (rs_i zr 6)) (.ref (ad 7)) (.ref (ad 8)) (.ref (ad 9)) (.ref (ad 10)) (.int (nI (rs_n zr 0))) (.ref (ad 12)) (.ref (ad 13)) (.ref (ad 14)) (.ref (ad 15)) (.ref (ad 16)) (.int (nI (rs_n zr 1))) (.ref (ad 18)) (.ref (ad 19)) (.int (rs_i zr 20)) (.int (rs_i zr 21)) (.int (rs_i zr 22)) (.int (rs_i zr 23)) (.int (nI (rs_n zr 2))) (.ref (ad 25)) (.ref (ad 26)) (.ref (ad 27)) (.ref (ad 28)) (.ref (ad 29)) (.ref (ad 30)) (.ref (ad 31)) (.ref (ad 32)) (.ref (ad 33)) (.int (rs_i zr 38)) (ad 35) (ad 36) (ad 37) (nI (rs_n zr 3)) (nI i30) (rs_n zr 3) (rs_I zr 35) (rs_I zr 36) (rs_I zr 37) rfl (by omega)) (cwV 1 hts gX11_skill_X11_worthOf rfl rfl rfl (by decide +kernel) ⟨Nat.le_of_ble_eq_true rfl, Nat.le_of_ble_eq_true rfl⟩) (pw_preV (va_recv hKc hPc (ci := 11) (q0 := 0) rfl rfl) hPc hKc hDc hN) rfl rfl hl.1 rfl (lv_room (Nat.le_of_ble_eq_true rfl)) dX11_skill_94 ⟨Nat.le_of_ble_eq_true rfl, Nat.le_of_ble_eq_true rfl⟩)) (fun r18 hr18 => ?_)
                    have hr18 : r18 = wsum (rs_I zr 35) (rs_I zr 36) (rs_I zr 37) (nI i30) (rs_n zr 3) := hr18
                    have hr18 := hr18.symm
                    subst hr18
                    refine W.eq (g2 := F0 m 97 ls [.long (wsum (rs_I zr 35) (rs_I zr 36) (rs_I zr 37) (nI i30) (rs_n zr 3)), .long ((((rs_L zr 29) i30) + ((rs_L zr 30) i30)) * 2), .long (rkU zr (nI jg) i30)]) rfl ?_
                    refine lv_lmul hx hb dX11_skill_97 ?_
                    refine lv_ladd hx hb dX11_skill_98 ?_
                    refine lv_lstore_n (lv' := [(3, .long ((rkU zr (nI jg) i30) + (((((rs_L zr 29) i30) + ((rs_L zr 30) i30)) * 2) * (wsum (rs_I zr 35) (rs_I zr 36) (rs_I zr 37) (nI i30) (rs_n zr 3))))), (8, .long (((rs_L zr 29) i30) + ((rs_L zr 30) i30))), (7, .int (nI i30)), (5, .long (rkD zr (nI jg) i30)), (0, .ref qm), (1, .int (nI jg)), (2, .int wh)]) hx hb dX11_skill_99 rfl hl (by decide) rfl (fun ls hl => ?_)
                    refine lv_lload hx hb dX11_skill_100 (lv_at hl 3 rfl) ?_
                    refine lv_lload hx hb dX11_skill_102 (lv_at hl 1 rfl) ?_
                    refine lv_lload hx hb dX11_skill_104 (lv_at hl 1 rfl) ?_
                    refine lv_lmul hx hb dX11_skill_106 ?_
                    refine lv_ladd hx hb dX11_skill_107 ?_
                    refine lv_lstore (lv' := [(5, .long ((rkD zr (nI jg) i30) + ((((rs_L zr 29) i30) + ((rs_L zr 30) i30)) * (((rs_L zr 29) i30) + ((rs_L zr 30) i30))))), (3, .long ((rkU zr (nI jg) i30) + (((((rs_L zr 29) i30) + ((rs_L zr 30) i30)) * 2) * (wsum (rs_I zr 35) (rs_I zr 36) (rs_I zr 37) (nI i30) (rs_n zr 3))))), (8, .long (((rs_L zr 29) i30) + ((rs_L zr 30) i30))), (7, .int (nI i30)), (0, .ref qm), (1, .int (nI jg)), (2, .int wh)]) hx hb dX11_skill_108 hl (by decide) rfl (fun ls hl => ?_)
                    refine lv_iinc (v := nI (i30 + 1)) (lv' := [(7, .int (nI (i30 + 1))), (5, .long ((rkD zr (nI jg) i30) + ((((rs_L zr 29) i30) + ((rs_L zr 30) i30)) * (((rs_L zr 29) i30) + ((rs_L zr 30) i30))))), (3, .long ((rkU zr (nI jg) i30) + (((((rs_L zr 29) i30) + ((rs_L zr 30) i30)) * 2) * (wsum (rs_I zr 35) (rs_I zr 36) (rs_I zr 37) (nI i30) (rs_n zr 3))))), (8, .long (((rs_L zr 29) i30) + ((rs_L zr 30) i30))), (0, .ref qm), (1, .int (nI jg)), (2, .int wh)]) hx hb dX11_skill_110 hl (k := 3) rfl (nI_1 i30) (by decide) rfl (fun ls hl => ?_)
                    refine lv_goto (tgt := 30) hx hb dX11_skill_113 (by decide) ?_
                    have e3 : rkU zr (nI jg) (i30 + 1) = (rkU zr (nI jg) i30) + (((((rs_L zr 29) i30) + ((rs_L zr 30) i30)) * 2) * (wsum (rs_I zr 35) (rs_I zr 36) (rs_I zr 37) (nI i30) (rs_n zr 3))) := by rw [rkU]; simp [c14, c16, Int64.not_le.mp c17]
                    have e5 : rkD zr (nI jg) (i30 + 1) = (rkD zr (nI jg) i30) + ((((rs_L zr 29) i30) + ((rs_L zr 30) i30)) * (((rs_L zr 29) i30) + ((rs_L zr 30) i30))) := by rw [rkD]; simp [c14, c16, Int64.not_le.mp c17]
                    rw [← e3, ← e5] at hl
                    have hl : lv_has ls 10 [(7, .int (nI (i30 + 1))), (5, .long (rkD zr (nI jg) (i30 + 1))), (3, .long (rkU zr (nI jg) (i30 + 1))), (8, .long (((rs_L zr 29) i30) + ((rs_L zr 30) i30))), (0, .ref qm), (1, .int (nI jg)), (2, .int wh)] := hl
                    exact ihi30 (i30 + 1)  ls (by omega) (by omega)  (lv_sub hl [0, 1, 2, 4, 5, 6] rfl)
        exact loop30 ((rs_n zr 2) + 1 - 0) 0  ls (by omega) (by omega)  (lv_sub hl [0, 1, 2, 3, 4, 5] rfl)
      · skip
        have c6 := (fa_bool_prop hr5).1.mp c6
        refine vp_callSl (va_Run.run (va_runS (As := []) (rest := []) ⟨hx, hb, hml, hown, hts⟩ (c_X11_lost l  ) (va_cwS 0 hts gX11_skill_X11_lost rfl rfl rfl (by decide +kernel) ⟨Nat.le_of_ble_eq_true rfl, Nat.le_of_ble_eq_true rfl⟩) (p0_preS hN) rfl rfl hl.1 rfl (lv_room (Nat.le_of_ble_eq_true rfl)) dX11_skill_18 ⟨Nat.le_of_ble_eq_true rfl, Nat.le_of_ble_eq_true rfl⟩)) (fun r19 hr19 => ?_)
        have hr19 : r19 = (-9223372036854775808) := hr19
        subst hr19
        subst hQ
        exact W.lret (v := (-9223372036854775808)) hx hb hr (fun t ht hW => ⟨⟨(-9223372036854775808), zr, rfl, ⟨hI, (Or.inr (Or.inr (Or.inr (Or.inr ⟨jg, rfl, hjg, c6, rfl, rfl⟩))))⟩, (by rw [ht]; exact hP0), va_K.moved hW.alike hK, hD0⟩, (by rw [ht]; exact Nat.le_refl _), fun q _ _ => by rw [ht]⟩) (fun q h => absurd h List.not_mem_nil) dX11_skill_21
