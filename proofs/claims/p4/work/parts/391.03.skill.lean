def pC_skill (zc : CS) (g : Int32) (wh : Int32) (r : Int64) (u : CS) : Prop :=
  ((∀ j, j < cs_n zc 1 → g ≠ nI j) ∧ r = ((-9223372036854775808)) ∧ u = zc) ∨
  (∃ jg : Nat, g = nI jg ∧ (jg < cs_n zc 1) ∧ (0 ≤ wh ∧ wh ≤ 1) ∧ ∃ r6 : Int64, (r6 = (gpr (skU zc jg (cs_n zc 2)) (skD zc jg (cs_n zc 2)) 128).1) ∧ (¬ r6 = 0) ∧ (¬ wh = 0) ∧ r = ((skD zc jg (cs_n zc 2)) / r6) ∧ u = zc) ∨
  (∃ jg : Nat, g = nI jg ∧ (jg < cs_n zc 1) ∧ (0 ≤ wh ∧ wh ≤ 1) ∧ ∃ r6 : Int64, (r6 = (gpr (skU zc jg (cs_n zc 2)) (skD zc jg (cs_n zc 2)) 128).1) ∧ (¬ r6 = 0) ∧ (wh = 0) ∧ r = ((skU zc jg (cs_n zc 2)) / r6) ∧ u = zc) ∨
  (∃ jg : Nat, g = nI jg ∧ (jg < cs_n zc 1) ∧ (0 ≤ wh ∧ wh ≤ 1) ∧ ∃ r6 : Int64, (r6 = (gpr (skU zc jg (cs_n zc 2)) (skD zc jg (cs_n zc 2)) 128).1) ∧ (r6 = 0) ∧ (¬ wh = 0) ∧ r = (1) ∧ u = zc) ∨
  (∃ jg : Nat, g = nI jg ∧ (jg < cs_n zc 1) ∧ (0 ≤ wh ∧ wh ≤ 1) ∧ ∃ r6 : Int64, (r6 = (gpr (skU zc jg (cs_n zc 2)) (skD zc jg (cs_n zc 2)) 128).1) ∧ (r6 = 0) ∧ (wh = 0) ∧ r = (0) ∧ u = zc) ∨
  (∃ jg : Nat, g = nI jg ∧ (jg < cs_n zc 1) ∧ (¬ (0 ≤ wh ∧ wh ≤ 1)) ∧ r = ((-9223372036854775808)) ∧ u = zc)
set_option maxHeartbeats 4000000 in
set_option maxRecDepth 100000 in
theorem K_skill (l : Launch) (dC : Nat → ClassId) (dI : Nat → Nat → Nat) (cA : Nat → ClassId) (sz : Nat) (zc : CS) (g : Int32) (wh : Int32) (hI : invC zc) : Met l yX10_skill wsX10_skill ({ frames := 3, cells := 0, slots := 0, locals := 90 }) (kw (dC, dI) (ctys cA) (cF cA zc) sz [.ref (cs_X zc 0 0), .int g, .int wh]) (kQl (dC, dI) (ctys cA) (cF cA zc) sz (cF cA) (fun r u => (invC u ∧ cs_X u 0 0 = cs_X zc 0 0) ∧ pC_skill zc g wh r u)) 0 0 (kA (cF cA zc) sz) := by
  refine kw_met (cc := cX10_skill) (maxL := 12) (ret := (some .long)) (by decide) rfl (Nat.le_of_ble_eq_true rfl) ?_
  intro p e s m below meth c0 hx hb hr hml hown hlocks hnm hts hPk hKk hDk hN hsz ls hl
  subst hsz
  have hK : va_K (dC, dI) vwCl [(cA 0, .int), (cA 1, .object RX6), (cA 2, .object RX2), (cA 3, .object RX8), (cA 4, .object RX5), (cA 5, .object RX7)] s := hKk
  obtain ⟨⟨hn0, hn1, hn2, hn3, hn4, hn5⟩, hpi, hgk, htk, hpk, hsh⟩ := id hI
  have hl : lv_has ls 12 [(0, .ref (cs_X zc 0 0)), (1, .int g), (2, .int wh)] := hl
  have hiX10 : ∀ w ∈ wsX100, w ∈ wsX10_skill := by decide +kernel
  have hiX8 : ∀ w ∈ wsX80, w ∈ wsX10_skill := by decide +kernel
  generalize hQ : MQ _ _ _ _ _ _ _ = Q
  rcases ixd g (cs_n zc 1) with hnojg | ⟨jg, hjg, rfl⟩
  · skip
    have hks : kAll (cF cA zc) [(0, 0), (0, 7)] [cTP zc, cR7 cA zc] := ⟨(kF_tp (cA := cA) (z := zc)), (kF_r7 (cA := cA) (z := zc)), trivial⟩
    have hP : va_P (dC, dI) vwCl [cTP zc, cR7 cA zc] s.heap := kAll_P hPk hks
    have hD : va_D (va_A [cTP zc, cR7 cA zc] s.heap.size) [cTP zc, cR7 cA zc] := (kAll_D hDk hks (by simp)).self
    have hA : ∀ q : Nat, s.heap.size ≤ q → va_A [cTP zc, cR7 cA zc] s.heap.size q := fun q h => Or.inr h
    have hS : va_S (va_A [cTP zc, cR7 cA zc] s.heap.size) s.heap s.heap [] := va_S.rf
    refine lv_aload_n hx hb dX10_skill_0 rfl (lv_at hl 0 rfl) ?_
    refine lv_iload_n hx hb dX10_skill_1 rfl (lv_at hl 1 rfl) ?_
    have hPc := hP.sub (ws' := [cTP zc]) [0] rfl
    have hDc := hD.sub (ws' := [cTP zc]) [0] (by decide) rfl
    have hKc := hK.sub (tys' := []) [] rfl
    refine va_csq (va_Run.run (va_runV (As := [.int g]) (rest := []) ⟨hx, hb, hml, hown, hts⟩ (s_gangAt_no l dC dI  _ (cs_X zc 0 0) (.ref (cs_X zc 0 1)) (.ref (cs_X zc 0 6)) (.ref (cs_X zc 0 7)) (.ref (cs_X zc 0 8)) (.ref (cs_X zc 0 9)) (.ref (cs_X zc 0 10)) (.ref (cs_X zc 0 11)) (.int (nI (cs_n zc 0))) (.int (nI (cs_n zc 2))) (.int (nI (cs_n zc 3))) (va_rf (opN (cs_n zc 4) (fun _ => cs_X zc 5 0))) (.int (cs_i zc 2)) g (cs_n zc 1) (by omega) hnojg) (cwV 1 hts gX10_skill_X10_gangAt rfl rfl rfl (by decide +kernel) ⟨Nat.le_of_ble_eq_true rfl, Nat.le_of_ble_eq_true rfl⟩) (pw_preV (va_recv hKc hPc (ci := 10) (q0 := 0) rfl rfl) hPc hKc hDc hN) rfl rfl hl.1 rfl (lv_room (Nat.le_of_ble_eq_true rfl)) dX10_skill_2 ⟨Nat.le_of_ble_eq_true rfl, Nat.le_of_ble_eq_true rfl⟩)) (fun r1 hr1 => ?_)
    have hr1 : r1 = none := hr1
    subst hr1
    refine W.eq (g2 := F0 m 5 ls [.null]) rfl ?_
    refine lv_astore_nN (lv' := [(3, .null), (0, .ref (cs_X zc 0 0)), (1, .int g), (2, .int wh)]) hx hb dX10_skill_5 rfl hl (by decide) rfl (fun ls hl => ?_)
    refine lv_aload_nN hx hb dX10_skill_6 rfl (lv_at hl 0 rfl) ?_
    refine lv_ifnullN (tgt := 19) hx hb dX10_skill_7 (by decide) ?_
    refine lv_ldc2 (v := (-9223372036854775808)) hx hb hown (hts (.constantLong RX10 137 (-9223372036854775808)) (by decide +kernel)) dX10_skill_19 ?_
    subst hQ
    exact W.lret (v := (-9223372036854775808)) hx hb hr (fun t ht hW => ⟨⟨(-9223372036854775808), zc, rfl, ⟨⟨hI, rfl⟩, (Or.inl ⟨hnojg, rfl, rfl⟩)⟩, (by rw [ht]; exact hPk), va_K.moved hW.alike hKk, kDA_self hDk⟩, (kw_same hPk ht).2⟩) (fun q h => absurd h List.not_mem_nil) dX10_skill_22
  · skip
    have hks : kAll (cF cA zc) [(0, 0), (0, 7), (0, 8)] [cTP zc, cR7 cA zc, cR8 cA zc] := ⟨(kF_tp (cA := cA) (z := zc)), (kF_r7 (cA := cA) (z := zc)), (kF_r8 (cA := cA) (z := zc)), trivial⟩
    have hP : va_P (dC, dI) vwCl [cTP zc, cR7 cA zc, cR8 cA zc] s.heap := kAll_P hPk hks
    have hD : va_D (va_A [cTP zc, cR7 cA zc, cR8 cA zc] s.heap.size) [cTP zc, cR7 cA zc, cR8 cA zc] := (kAll_D hDk hks (by simp)).self
    have hA : ∀ q : Nat, s.heap.size ≤ q → va_A [cTP zc, cR7 cA zc, cR8 cA zc] s.heap.size q := fun q h => Or.inr h
    have hS : va_S (va_A [cTP zc, cR7 cA zc, cR8 cA zc] s.heap.size) s.heap s.heap [] := va_S.rf
    refine lv_aload_n hx hb dX10_skill_0 rfl (lv_at hl 0 rfl) ?_
    refine lv_iload_n hx hb dX10_skill_1 rfl (lv_at hl 1 rfl) ?_
    have hPc := hP.sub (ws' := [cTP zc, cR7 cA zc]) [0, 1] rfl
    have hDc := hD.sub (ws' := [cTP zc, cR7 cA zc]) [0, 1] (by decide) rfl
    have hKc := hK.sub (tys' := [(cA 2, .object RX2)]) [2] rfl
    refine va_csq (va_Run.run (va_runV (As := [.int (nI jg)]) (rest := []) ⟨hx, hb, hml, hown, hts⟩ (s_gangAt_yes l dC dI (cA 2) _ (cs_X zc 0 0) (.ref (cs_X zc 0 1)) (.ref (cs_X zc 0 6)) (.ref (cs_X zc 0 8)) (.ref (cs_X zc 0 9)) (.ref (cs_X zc 0 10)) (.ref (cs_X zc 0 11)) (.int (nI (cs_n zc 0))) (.int (nI (cs_n zc 2))) (.int (nI (cs_n zc 3))) (va_rf (opN (cs_n zc 4) (fun _ => cs_X zc 5 0))) (.int (cs_i zc 2)) (cs_X zc 0 7) jg (cs_n zc 1) (cs_X zc 2 jg) (rfN (cs_n zc 1) (cs_X zc 2)) hjg (by omega) (rfN_at hjg)) (cwV 1 hts gX10_skill_X10_gangAt rfl rfl rfl (by decide +kernel) ⟨Nat.le_of_ble_eq_true rfl, Nat.le_of_ble_eq_true rfl⟩) (pw_preV (va_recv hKc hPc (ci := 10) (q0 := 0) rfl rfl) hPc hKc hDc hN) rfl rfl hl.1 rfl (lv_room (Nat.le_of_ble_eq_true rfl)) dX10_skill_2 ⟨Nat.le_of_ble_eq_true rfl, Nat.le_of_ble_eq_true rfl⟩)) (fun r2 hr2 => ?_)
    have hr2 : r2 = some (cs_X zc 2 jg) := hr2
    subst hr2
    refine W.eq (g2 := F0 m 5 ls [.ref (cs_X zc 2 jg)]) rfl ?_
    refine lv_astore_n (lv' := [(3, .ref (cs_X zc 2 jg)), (0, .ref (cs_X zc 0 0)), (1, .int (nI jg)), (2, .int wh)]) hx hb dX10_skill_5 rfl hl (by decide) rfl (fun ls hl => ?_)
    refine lv_aload_n hx hb dX10_skill_6 rfl (lv_at hl 0 rfl) ?_
    refine lv_ifnull hx hb dX10_skill_7 ?_
    refine lv_iload_n hx hb dX10_skill_10 rfl (lv_at hl 3 rfl) ?_
    refine lv_iconst (v := 0) hx hb dX10_skill_11 (by decide) ?_
    refine lv_iconst (v := 1) hx hb dX10_skill_12 (by decide) ?_
    refine vp_callSi (va_Run.run (va_runS (As := [.int wh, .int 0, .int 1]) (rest := []) ⟨hx, hb, hml, hown, hts⟩ (c_X10_isWithin l wh 0 1 ) (va_cwS 3 hts gX10_skill_X10_isWithin rfl rfl rfl (by decide +kernel) ⟨Nat.le_of_ble_eq_true rfl, Nat.le_of_ble_eq_true rfl⟩) (p0_preS hN) rfl rfl hl.1 rfl (lv_room (Nat.le_of_ble_eq_true rfl)) dX10_skill_13 ⟨Nat.le_of_ble_eq_true rfl, Nat.le_of_ble_eq_true rfl⟩)) (fun r3 hr3 => ?_)
    have hr3 : r3 = if 0 ≤ wh ∧ wh ≤ 1 then 1 else 0 := hr3
    refine lv_if_ne (tgt := 23) hx hb dX10_skill_16 (by decide) (fun c4 => ?_) (fun c4 => ?_)
    · skip
      have c4 := (fa_bool_prop hr3).2.mp c4
      refine lv_lconst (v := 0) hx hb dX10_skill_23 (by decide) ?_
      refine lv_lstore (lv' := [(4, .long 0), (3, .ref (cs_X zc 2 jg)), (0, .ref (cs_X zc 0 0)), (1, .int (nI jg)), (2, .int wh)]) hx hb dX10_skill_24 hl (by decide) rfl (fun ls hl => ?_)
      refine lv_lconst (v := 0) hx hb dX10_skill_26 (by decide) ?_
      refine lv_lstore (lv' := [(6, .long 0), (4, .long 0), (3, .ref (cs_X zc 2 jg)), (0, .ref (cs_X zc 0 0)), (1, .int (nI jg)), (2, .int wh)]) hx hb dX10_skill_27 hl (by decide) rfl (fun ls hl => ?_)
      refine lv_iconst (v := 0) hx hb dX10_skill_29 (by decide) ?_
      refine lv_istore (lv' := [(8, .int 0), (6, .long 0), (4, .long 0), (3, .ref (cs_X zc 2 jg)), (0, .ref (cs_X zc 0 0)), (1, .int (nI jg)), (2, .int wh)]) hx hb dX10_skill_30 hl (by decide) rfl (fun ls hl => ?_)
      have loop32 : ∀ (ni32 i32 : Nat) (ls : Array Slot), i32 ≤ (cs_n zc 2) → (cs_n zc 2) + 1 ≤ i32 + ni32 → lv_has ls 12 [(8, .int (nI i32)), (6, .long (skD zc jg i32)), (4, .long (skU zc jg i32)), (3, .ref (cs_X zc 2 jg)), (0, .ref (cs_X zc 0 0)), (1, .int (nI jg)), (2, .int wh)] → W p l e ({ frames := 3, cells := 0, slots := 0, locals := 90 } : Room) s m ([.ref (cs_X zc 0 0), .int (nI jg), .int wh] : List Value).toArray below meth c0 s.heap [] 0 0 Q (F0 m 32 ls []) := by
        intro ni32
        induction ni32 with
        | zero =>
          intro i32  ls h1 h2
          exact absurd h2 (by omega)
        | succ ni32 ihi32 =>
          intro i32  ls hlei32 hni32  hl
          refine lv_iload hx hb dX10_skill_32 (lv_at hl 0 rfl) ?_
          refine lv_aload_n hx hb dX10_skill_34 rfl (lv_at hl 4 rfl) ?_
          refine va_get (D := (dC, dI)) (ci := 10) (v := .int (nI (cs_n zc 2))) (C := RX10) (T := TX10) (N := 13) hx hb hts hiX10 hown hK hP 0 rfl rfl 9 (by decide) (hts (.fieldLink RX10 197 "TributePitches" "takeCount" "I") (by decide +kernel)) (fun _ h9 => h9) rfl dX10_skill_35 ?_
          refine lv_icmp_ge (tgt := 116) hx hb dX10_skill_38 (by decide) (fun c5 => ?_) (fun c5 => ?_)
          · skip
            have hei32 : (cs_n zc 2) = i32 := (by have q := (nI_leI (a := (cs_n zc 2)) (b := i32) (by omega) (by omega)).mp c5; omega)
            subst hei32
            refine lv_lload hx hb dX10_skill_116 (lv_at hl 2 rfl) ?_
            refine lv_lload hx hb dX10_skill_118 (lv_at hl 1 rfl) ?_
            refine vp_callSl (va_Run.run (va_runS (As := [.long (skU zc jg (cs_n zc 2)), .long (skD zc jg (cs_n zc 2))]) (rest := []) ⟨hx, hb, hml, hown, hts⟩ (s_commonDivisor l (skU zc jg (cs_n zc 2)) (skD zc jg (cs_n zc 2)) ) (va_cwS 2 hts gX10_skill_X10_commonDivisor rfl rfl rfl (by decide +kernel) ⟨Nat.le_of_ble_eq_true rfl, Nat.le_of_ble_eq_true rfl⟩) (p0_preS hN) rfl rfl hl.1 rfl (lv_room (Nat.le_of_ble_eq_true rfl)) dX10_skill_120 ⟨Nat.le_of_ble_eq_true rfl, Nat.le_of_ble_eq_true rfl⟩)) (fun r6 hr6 => ?_)
            have hr6 : r6 = (gpr (skU zc jg (cs_n zc 2)) (skD zc jg (cs_n zc 2)) 128).1 := hr6
            refine lv_lstore (lv' := [(8, .long r6), (6, .long (skD zc jg (cs_n zc 2))), (4, .long (skU zc jg (cs_n zc 2))), (3, .ref (cs_X zc 2 jg)), (0, .ref (cs_X zc 0 0)), (1, .int (nI jg)), (2, .int wh)]) hx hb dX10_skill_123 hl (by decide) rfl (fun ls hl => ?_)
            refine lv_lload hx hb dX10_skill_125 (lv_at hl 0 rfl) ?_
            refine lv_lconst (v := 0) hx hb dX10_skill_127 (by decide) ?_
            refine W.lcmp hx hb dX10_skill_128 ?_
            refine lv_if_ne (tgt := 142) hx hb dX10_skill_129 (by decide) (fun c7 => ?_) (fun c7 => ?_)
            · skip
              have c7 := fun h => c7 ((lg_cmp_eq _ _).mpr h)
              refine lv_iload_n hx hb dX10_skill_142 rfl (lv_at hl 6 rfl) ?_
              refine lv_if_ne (tgt := 154) hx hb dX10_skill_143 (by decide) (fun c8 => ?_) (fun c8 => ?_)
              · skip
                refine lv_lload hx hb dX10_skill_154 (lv_at hl 1 rfl) ?_
                refine lv_lload hx hb dX10_skill_156 (lv_at hl 0 rfl) ?_
                refine lv_ldiv hx hb dX10_skill_158 c7 ?_
                subst hQ
                exact W.lret (v := (skD zc jg (cs_n zc 2)) / r6) hx hb hr (fun t ht hW => ⟨⟨(skD zc jg (cs_n zc 2)) / r6, zc, rfl, ⟨⟨hI, rfl⟩, (Or.inr (Or.inl ⟨jg, rfl, hjg, c4, r6, hr6, c7, c8, rfl, rfl⟩))⟩, (by rw [ht]; exact hPk), va_K.moved hW.alike hKk, kDA_self hDk⟩, (kw_same hPk ht).2⟩) (fun q h => absurd h List.not_mem_nil) dX10_skill_159
              · skip
                refine lv_lload hx hb dX10_skill_146 (lv_at hl 2 rfl) ?_
                refine lv_lload hx hb dX10_skill_148 (lv_at hl 0 rfl) ?_
                refine lv_ldiv hx hb dX10_skill_150 c7 ?_
                refine lv_goto (tgt := 159) hx hb dX10_skill_151 (by decide) ?_
                subst hQ
                exact W.lret (v := (skU zc jg (cs_n zc 2)) / r6) hx hb hr (fun t ht hW => ⟨⟨(skU zc jg (cs_n zc 2)) / r6, zc, rfl, ⟨⟨hI, rfl⟩, (Or.inr (Or.inr (Or.inl ⟨jg, rfl, hjg, c4, r6, hr6, c7, c8, rfl, rfl⟩)))⟩, (by rw [ht]; exact hPk), va_K.moved hW.alike hKk, kDA_self hDk⟩, (kw_same hPk ht).2⟩) (fun q h => absurd h List.not_mem_nil) dX10_skill_159
            · skip
              have c7 := (lg_cmp_eq _ _).mp c7
              refine lv_iload_n hx hb dX10_skill_132 rfl (lv_at hl 6 rfl) ?_
              refine lv_if_ne (tgt := 140) hx hb dX10_skill_133 (by decide) (fun c9 => ?_) (fun c9 => ?_)
              · skip
                refine lv_lconst (v := 1) hx hb dX10_skill_140 (by decide) ?_
                subst hQ
                exact W.lret (v := 1) hx hb hr (fun t ht hW => ⟨⟨1, zc, rfl, ⟨⟨hI, rfl⟩, (Or.inr (Or.inr (Or.inr (Or.inl ⟨jg, rfl, hjg, c4, r6, hr6, c7, c9, rfl, rfl⟩))))⟩, (by rw [ht]; exact hPk), va_K.moved hW.alike hKk, kDA_self hDk⟩, (kw_same hPk ht).2⟩) (fun q h => absurd h List.not_mem_nil) dX10_skill_141
              · skip
                refine lv_lconst (v := 0) hx hb dX10_skill_136 (by decide) ?_
                refine lv_goto (tgt := 141) hx hb dX10_skill_137 (by decide) ?_
                subst hQ
                exact W.lret (v := 0) hx hb hr (fun t ht hW => ⟨⟨0, zc, rfl, ⟨⟨hI, rfl⟩, (Or.inr (Or.inr (Or.inr (Or.inr (Or.inl ⟨jg, rfl, hjg, c4, r6, hr6, c7, c9, rfl, rfl⟩)))))⟩, (by rw [ht]; exact hPk), va_K.moved hW.alike hKk, kDA_self hDk⟩, (kw_same hPk ht).2⟩) (fun q h => absurd h List.not_mem_nil) dX10_skill_141
          · skip
            have hlti32 : i32 < (cs_n zc 2) := (Nat.lt_or_ge i32 (cs_n zc 2)).elim id (fun q => absurd (nI_le q (by omega)) c5)
            refine lv_aload_n hx hb dX10_skill_41 rfl (lv_at hl 4 rfl) ?_
            refine va_get (D := (dC, dI)) (ci := 10) (v := .ref (cs_X zc 0 8)) (C := RX10) (T := TX10) (N := 13) hx hb hts hiX10 hown hK hP 0 rfl rfl 3 (by decide) (hts (.fieldLink RX10 32 "TributePitches" "takes" "[LTributePitches$Take;") (by decide +kernel)) (fun _ h9 => h9) rfl dX10_skill_42 ?_
            refine lv_iload hx hb dX10_skill_45 (lv_at hl 0 rfl) ?_
            refine va_aldq hx hb hK hP 2 3 rfl rfl (vp_in_nI (by omega) (by omega)) dX10_skill_47 ?_
            refine W.eq (g2 := F0 m 48 ls [.ref (cs_X zc 3 i32)]) (by rw [nI_clamp (by omega), rfN_at hlti32]; rfl) ?_
            have hks : kAll (cF cA zc) [(0, 0), (0, 7), (0, 8), (3, i32)] [cTP zc, cR7 cA zc, cR8 cA zc, cTa zc i32] := ⟨(kF_tp (cA := cA) (z := zc)), (kF_r7 (cA := cA) (z := zc)), (kF_r8 (cA := cA) (z := zc)), (kF_ta (z := zc) hlti32), trivial⟩
            have hP : va_P (dC, dI) vwCl [cTP zc, cR7 cA zc, cR8 cA zc, cTa zc i32] s.heap := kAll_P hPk hks
            have hD : va_D (va_A [cTP zc, cR7 cA zc, cR8 cA zc, cTa zc i32] s.heap.size) [cTP zc, cR7 cA zc, cR8 cA zc, cTa zc i32] := (kAll_D hDk hks (by simp)).self
            have hA : ∀ q : Nat, s.heap.size ≤ q → va_A [cTP zc, cR7 cA zc, cR8 cA zc, cTa zc i32] s.heap.size q := fun q h => Or.inr h
            have hS : va_S (va_A [cTP zc, cR7 cA zc, cR8 cA zc, cTa zc i32] s.heap.size) s.heap s.heap [] := va_S.rf
            refine lv_astore (lv' := [(9, .ref (cs_X zc 3 i32)), (8, .int (nI i32)), (6, .long (skD zc jg i32)), (4, .long (skU zc jg i32)), (3, .ref (cs_X zc 2 jg)), (0, .ref (cs_X zc 0 0)), (1, .int (nI jg)), (2, .int wh)]) hx hb dX10_skill_48 hl (by decide) rfl (fun ls hl => ?_)
            refine lv_aload hx hb dX10_skill_50 (lv_at hl 0 rfl) ?_
            refine va_get (D := (dC, dI)) (ci := 8) (v := .ref (cs_X zc 2 (cs_N zc 2 i32))) (C := RX8) (T := TX8) (N := 12) hx hb hts hiX8 hown hK hP 3 rfl rfl 2 (by decide) (hts (.fieldLink RX10 265 "TributePitches$Take" "gang" "LTributePitches$Gang;") (by decide +kernel)) (fun _ h9 => h9) rfl dX10_skill_52 ?_
            refine lv_aload_n hx hb dX10_skill_55 rfl (lv_at hl 4 rfl) ?_
            refine lv_acmp_ne (rx := (some (cs_X zc 2 (cs_N zc 2 i32)))) (ry := (some (cs_X zc 2 jg))) (tgt := 110) hx hb dX10_skill_56 (by decide) (fun c10 => ?_) (fun c10 => ?_)
            · skip
              have c10 : ¬ cs_N zc 2 i32 = jg := fun q => c10 (by rw [q])
              refine lv_iinc (v := nI (i32 + 1)) (lv' := [(8, .int (nI (i32 + 1))), (9, .ref (cs_X zc 3 i32)), (6, .long (skD zc jg i32)), (4, .long (skU zc jg i32)), (3, .ref (cs_X zc 2 jg)), (0, .ref (cs_X zc 0 0)), (1, .int (nI jg)), (2, .int wh)]) hx hb dX10_skill_110 hl (k := 1) rfl (nI_1 i32) (by decide) rfl (fun ls hl => ?_)
              refine lv_goto (tgt := 32) hx hb dX10_skill_113 (by decide) ?_
              have e4 : skU zc jg (i32 + 1) = skU zc jg i32 := by rw [skU]; simp [c10]
              have e6 : skD zc jg (i32 + 1) = skD zc jg i32 := by rw [skD]; simp [c10]
              rw [← e4, ← e6] at hl
              have hl : lv_has ls 12 [(8, .int (nI (i32 + 1))), (9, .ref (cs_X zc 3 i32)), (6, .long (skD zc jg (i32 + 1))), (4, .long (skU zc jg (i32 + 1))), (3, .ref (cs_X zc 2 jg)), (0, .ref (cs_X zc 0 0)), (1, .int (nI jg)), (2, .int wh)] := hl
              exact ihi32 (i32 + 1)  ls (by omega) (by omega)  (lv_sub hl [0, 2, 3, 4, 5, 6, 7] rfl)
            · skip
              have c10 : cs_N zc 2 i32 = jg := (hDk 2 _ 2 _ _ _ (kF_ga (cA := cA) (z := zc) (j := cs_N zc 2 i32) (htk i32 hlti32).1) (kF_ga (cA := cA) (z := zc) (j := jg) hjg) (Option.some.inj c10)).2
              refine lv_aload hx hb dX10_skill_59 (lv_at hl 0 rfl) ?_
              refine va_get (D := (dC, dI)) (ci := 8) (v := .int (cs_I zc 33 i32)) (C := RX8) (T := TX8) (N := 12) hx hb hts hiX8 hown hK hP 3 rfl rfl 11 (by decide) (hts (.fieldLink RX10 238 "TributePitches$Take" "settled" "Z") (by decide +kernel)) (fun _ h9 => h9) rfl dX10_skill_61 ?_
              refine lv_if_ne (tgt := 70) hx hb dX10_skill_64 (by decide) (fun c11 => ?_) (fun c11 => ?_)
              · skip
                refine lv_aload hx hb dX10_skill_70 (lv_at hl 0 rfl) ?_
                refine va_get (D := (dC, dI)) (ci := 8) (v := .long (cs_L zc 1 i32)) (C := RX8) (T := TX8) (N := 12) hx hb hts hiX8 hown hK hP 3 rfl rfl 4 (by decide) (hts (.fieldLink RX10 203 "TributePitches$Take" "least" "J") (by decide +kernel)) (fun _ h9 => h9) rfl dX10_skill_72 ?_
                refine lv_aload hx hb dX10_skill_75 (lv_at hl 0 rfl) ?_
                refine va_get (D := (dC, dI)) (ci := 8) (v := .long (cs_L zc 2 i32)) (C := RX8) (T := TX8) (N := 12) hx hb hts hiX8 hown hK hP 3 rfl rfl 5 (by decide) (hts (.fieldLink RX10 207 "TributePitches$Take" "greatest" "J") (by decide +kernel)) (fun _ h9 => h9) rfl dX10_skill_77 ?_
                refine lv_ladd hx hb dX10_skill_80 ?_
                refine lv_lstore (lv' := [(10, .long ((cs_L zc 1 i32) + (cs_L zc 2 i32))), (9, .ref (cs_X zc 3 i32)), (8, .int (nI i32)), (6, .long (skD zc jg i32)), (4, .long (skU zc jg i32)), (3, .ref (cs_X zc 2 jg)), (0, .ref (cs_X zc 0 0)), (1, .int (nI jg)), (2, .int wh)]) hx hb dX10_skill_81 hl (by decide) rfl (fun ls hl => ?_)
                refine lv_lload hx hb dX10_skill_83 (lv_at hl 4 rfl) ?_
                refine lv_lload hx hb dX10_skill_85 (lv_at hl 0 rfl) ?_
                refine lv_ldc2 (v := 2) hx hb hown (hts (.constantLong RX10 278 (2)) (by decide +kernel)) dX10_skill_87 ?_
                refine lv_aload hx hb dX10_skill_90 (lv_at hl 1 rfl) ?_
                refine va_get (D := (dC, dI)) (ci := 8) (v := .long (cs_L zc 3 i32)) (C := RX8) (T := TX8) (N := 12) hx hb hts hiX8 hown hK hP 3 rfl rfl 6 (by decide) (hts (.fieldLink RX10 249 "TributePitches$Take" "worths" "J") (by decide +kernel)) (fun _ h9 => h9) rfl dX10_skill_92 ?_
                refine lv_lmul hx hb dX10_skill_95 ?_
                refine lv_lmul hx hb dX10_skill_96 ?_
                refine lv_ladd hx hb dX10_skill_97 ?_
                refine lv_lstore (lv' := [(4, .long ((skU zc jg i32) + (((cs_L zc 1 i32) + (cs_L zc 2 i32)) * (2 * (cs_L zc 3 i32))))), (10, .long ((cs_L zc 1 i32) + (cs_L zc 2 i32))), (9, .ref (cs_X zc 3 i32)), (8, .int (nI i32)), (6, .long (skD zc jg i32)), (3, .ref (cs_X zc 2 jg)), (0, .ref (cs_X zc 0 0)), (1, .int (nI jg)), (2, .int wh)]) hx hb dX10_skill_98 hl (by decide) rfl (fun ls hl => ?_)
                refine lv_lload hx hb dX10_skill_100 (lv_at hl 4 rfl) ?_
                refine lv_lload hx hb dX10_skill_102 (lv_at hl 1 rfl) ?_
                refine lv_lload hx hb dX10_skill_104 (lv_at hl 1 rfl) ?_
                refine lv_lmul hx hb dX10_skill_106 ?_
                refine lv_ladd hx hb dX10_skill_107 ?_
                refine lv_lstore (lv' := [(6, .long ((skD zc jg i32) + (((cs_L zc 1 i32) + (cs_L zc 2 i32)) * ((cs_L zc 1 i32) + (cs_L zc 2 i32))))), (4, .long ((skU zc jg i32) + (((cs_L zc 1 i32) + (cs_L zc 2 i32)) * (2 * (cs_L zc 3 i32))))), (10, .long ((cs_L zc 1 i32) + (cs_L zc 2 i32))), (9, .ref (cs_X zc 3 i32)), (8, .int (nI i32)), (3, .ref (cs_X zc 2 jg)), (0, .ref (cs_X zc 0 0)), (1, .int (nI jg)), (2, .int wh)]) hx hb dX10_skill_108 hl (by decide) rfl (fun ls hl => ?_)
                refine lv_iinc (v := nI (i32 + 1)) (lv' := [(8, .int (nI (i32 + 1))), (6, .long ((skD zc jg i32) + (((cs_L zc 1 i32) + (cs_L zc 2 i32)) * ((cs_L zc 1 i32) + (cs_L zc 2 i32))))), (4, .long ((skU zc jg i32) + (((cs_L zc 1 i32) + (cs_L zc 2 i32)) * (2 * (cs_L zc 3 i32))))), (10, .long ((cs_L zc 1 i32) + (cs_L zc 2 i32))), (9, .ref (cs_X zc 3 i32)), (3, .ref (cs_X zc 2 jg)), (0, .ref (cs_X zc 0 0)), (1, .int (nI jg)), (2, .int wh)]) hx hb dX10_skill_110 hl (k := 4) rfl (nI_1 i32) (by decide) rfl (fun ls hl => ?_)
                refine lv_goto (tgt := 32) hx hb dX10_skill_113 (by decide) ?_
                have e4 : skU zc jg (i32 + 1) = (skU zc jg i32) + (((cs_L zc 1 i32) + (cs_L zc 2 i32)) * (2 * (cs_L zc 3 i32))) := by rw [skU]; simp [c10, c11]
                have e6 : skD zc jg (i32 + 1) = (skD zc jg i32) + (((cs_L zc 1 i32) + (cs_L zc 2 i32)) * ((cs_L zc 1 i32) + (cs_L zc 2 i32))) := by rw [skD]; simp [c10, c11]
                rw [← e4, ← e6] at hl
                have hl : lv_has ls 12 [(8, .int (nI (i32 + 1))), (6, .long (skD zc jg (i32 + 1))), (4, .long (skU zc jg (i32 + 1))), (10, .long ((cs_L zc 1 i32) + (cs_L zc 2 i32))), (9, .ref (cs_X zc 3 i32)), (3, .ref (cs_X zc 2 jg)), (0, .ref (cs_X zc 0 0)), (1, .int (nI jg)), (2, .int wh)] := hl
                exact ihi32 (i32 + 1)  ls (by omega) (by omega)  (lv_sub hl [0, 1, 2, 5, 6, 7, 8] rfl)
              · skip
                refine lv_goto (tgt := 110) hx hb dX10_skill_67 (by decide) ?_
                refine lv_iinc (v := nI (i32 + 1)) (lv' := [(8, .int (nI (i32 + 1))), (9, .ref (cs_X zc 3 i32)), (6, .long (skD zc jg i32)), (4, .long (skU zc jg i32)), (3, .ref (cs_X zc 2 jg)), (0, .ref (cs_X zc 0 0)), (1, .int (nI jg)), (2, .int wh)]) hx hb dX10_skill_110 hl (k := 1) rfl (nI_1 i32) (by decide) rfl (fun ls hl => ?_)
                refine lv_goto (tgt := 32) hx hb dX10_skill_113 (by decide) ?_
                have e4 : skU zc jg (i32 + 1) = skU zc jg i32 := by rw [skU]; simp [c10, c11]
                have e6 : skD zc jg (i32 + 1) = skD zc jg i32 := by rw [skD]; simp [c10, c11]
                rw [← e4, ← e6] at hl
                have hl : lv_has ls 12 [(8, .int (nI (i32 + 1))), (9, .ref (cs_X zc 3 i32)), (6, .long (skD zc jg (i32 + 1))), (4, .long (skU zc jg (i32 + 1))), (3, .ref (cs_X zc 2 jg)), (0, .ref (cs_X zc 0 0)), (1, .int (nI jg)), (2, .int wh)] := hl
                exact ihi32 (i32 + 1)  ls (by omega) (by omega)  (lv_sub hl [0, 2, 3, 4, 5, 6, 7] rfl)
      exact loop32 ((cs_n zc 2) + 1 - 0) 0  ls (by omega) (by omega)  (lv_sub hl [0, 1, 2, 3, 4, 5, 6] rfl)
    · skip
      have c4 := (fa_bool_prop hr3).1.mp c4
      refine lv_ldc2 (v := (-9223372036854775808)) hx hb hown (hts (.constantLong RX10 137 (-9223372036854775808)) (by decide +kernel)) dX10_skill_19 ?_
      subst hQ
      exact W.lret (v := (-9223372036854775808)) hx hb hr (fun t ht hW => ⟨⟨(-9223372036854775808), zc, rfl, ⟨⟨hI, rfl⟩, (Or.inr (Or.inr (Or.inr (Or.inr (Or.inr ⟨jg, rfl, hjg, c4, rfl, rfl⟩)))))⟩, (by rw [ht]; exact hPk), va_K.moved hW.alike hKk, kDA_self hDk⟩, (kw_same hPk ht).2⟩) (fun q h => absurd h List.not_mem_nil) dX10_skill_22
