def pC_suspects (zc : CS) (r : Int32) (u : CS) : Prop :=
  (r = (nI (fa_cnt (psus zc) (cs_n zc 3))) ∧ u = zc)
set_option maxHeartbeats 4000000 in
set_option maxRecDepth 100000 in
theorem K_suspects (l : Launch) (dC : Nat → ClassId) (dI : Nat → Nat → Nat) (cA : Nat → ClassId) (sz : Nat) (zc : CS) (hI : invC zc) : Met l yX10_suspects wsX10_suspects ({ frames := 3, cells := 0, slots := 0, locals := 90 }) (kw (dC, dI) (ctys cA) (cF cA zc) sz [.ref (cs_X zc 0 0)]) (kQi (dC, dI) (ctys cA) (cF cA zc) sz (cF cA) (fun r u => (invC u ∧ cs_X u 0 0 = cs_X zc 0 0) ∧ pC_suspects zc r u)) 0 0 (kA (cF cA zc) sz) := by
  refine kw_met (cc := cX10_suspects) (maxL := 3) (ret := (some .int)) (by decide) rfl (Nat.le_of_ble_eq_true rfl) ?_
  intro p e s m below meth c0 hx hb hr hml hown hlocks hnm hts hPk hKk hDk hN hsz ls hl
  subst hsz
  have hK : va_K (dC, dI) vwCl [(cA 0, .int), (cA 1, .object RX6), (cA 2, .object RX2), (cA 3, .object RX8), (cA 4, .object RX5), (cA 5, .object RX7)] s := hKk
  obtain ⟨⟨hn0, hn1, hn2, hn3, hn4, hn5⟩, hpi, hgk, htk, hpk, hsh⟩ := id hI
  have hl : lv_has ls 3 [(0, .ref (cs_X zc 0 0))] := hl
  have hiX10 : ∀ w ∈ wsX100, w ∈ wsX10_suspects := by decide +kernel
  generalize hQ : MQ _ _ _ _ _ _ _ = Q
  have hks : kAll (cF cA zc) [(0, 0), (0, 9)] [cTP zc, cR9 cA zc] := ⟨(kF_tp (cA := cA) (z := zc)), (kF_r9 (cA := cA) (z := zc)), trivial⟩
  have hP : va_P (dC, dI) vwCl [cTP zc, cR9 cA zc] s.heap := kAll_P hPk hks
  have hD : va_D (va_A [cTP zc, cR9 cA zc] s.heap.size) [cTP zc, cR9 cA zc] := (kAll_D hDk hks (by simp)).self
  have hA : ∀ q : Nat, s.heap.size ≤ q → va_A [cTP zc, cR9 cA zc] s.heap.size q := fun q h => Or.inr h
  have hS : va_S (va_A [cTP zc, cR9 cA zc] s.heap.size) s.heap s.heap [] := va_S.rf
  refine lv_iconst (v := 0) hx hb dX10_suspects_0 (by decide) ?_
  refine lv_istore_n (lv' := [(1, .int 0), (0, .ref (cs_X zc 0 0))]) hx hb dX10_suspects_1 rfl hl (by decide) rfl (fun ls hl => ?_)
  refine lv_iconst (v := 0) hx hb dX10_suspects_2 (by decide) ?_
  refine lv_istore_n (lv' := [(2, .int 0), (1, .int 0), (0, .ref (cs_X zc 0 0))]) hx hb dX10_suspects_3 rfl hl (by decide) rfl (fun ls hl => ?_)
  have loop4 : ∀ (ni4 i4 : Nat) (ls : Array Slot), i4 ≤ (cs_n zc 3) → (cs_n zc 3) + 1 ≤ i4 + ni4 → lv_has ls 3 [(2, .int (nI i4)), (1, .int (nI (fa_cnt (psus zc) i4))), (0, .ref (cs_X zc 0 0))] → W p l e ({ frames := 3, cells := 0, slots := 0, locals := 90 } : Room) s m ([.ref (cs_X zc 0 0)] : List Value).toArray below meth c0 s.heap [] 0 0 Q (F0 m 4 ls []) := by
    intro ni4
    induction ni4 with
    | zero =>
      intro i4  ls h1 h2
      exact absurd h2 (by omega)
    | succ ni4 ihi4 =>
      intro i4  ls hlei4 hni4  hl
      refine lv_iload_n hx hb dX10_suspects_4 rfl (lv_at hl 0 rfl) ?_
      refine lv_aload_n hx hb dX10_suspects_5 rfl (lv_at hl 2 rfl) ?_
      refine va_get (D := (dC, dI)) (ci := 10) (v := .int (nI (cs_n zc 3))) (C := RX10) (T := TX10) (N := 13) hx hb hts hiX10 hown hK hP 0 rfl rfl 10 (by decide) (hts (.fieldLink RX10 242 "TributePitches" "parcelCount" "I") (by decide +kernel)) (fun _ h9 => h9) rfl dX10_suspects_6 ?_
      refine lv_icmp_ge (tgt := 37) hx hb dX10_suspects_9 (by decide) (fun c1 => ?_) (fun c1 => ?_)
      · skip
        have hei4 : (cs_n zc 3) = i4 := (by have q := (nI_leI (a := (cs_n zc 3)) (b := i4) (by omega) (by omega)).mp c1; omega)
        subst hei4
        refine lv_iload_n hx hb dX10_suspects_37 rfl (lv_at hl 1 rfl) ?_
        subst hQ
        exact W.iret (v := nI (fa_cnt (psus zc) (cs_n zc 3))) hx hb hr (fun t ht hW => ⟨⟨nI (fa_cnt (psus zc) (cs_n zc 3)), zc, rfl, ⟨⟨hI, rfl⟩, ⟨rfl, rfl⟩⟩, (by rw [ht]; exact hPk), va_K.moved hW.alike hKk, kDA_self hDk⟩, (kw_same hPk ht).2⟩) (fun q h => absurd h List.not_mem_nil) dX10_suspects_38
      · skip
        have hlti4 : i4 < (cs_n zc 3) := (Nat.lt_or_ge i4 (cs_n zc 3)).elim id (fun q => absurd (nI_le q (by omega)) c1)
        refine lv_aload_n hx hb dX10_suspects_12 rfl (lv_at hl 2 rfl) ?_
        refine va_get (D := (dC, dI)) (ci := 10) (v := .ref (cs_X zc 0 9)) (C := RX10) (T := TX10) (N := 13) hx hb hts hiX10 hown hK hP 0 rfl rfl 4 (by decide) (hts (.fieldLink RX10 38 "TributePitches" "parcels" "[LTributePitches$Parcel;") (by decide +kernel)) (fun _ h9 => h9) rfl dX10_suspects_13 ?_
        refine lv_iload_n hx hb dX10_suspects_16 rfl (lv_at hl 0 rfl) ?_
        refine va_aldq hx hb hK hP 1 4 rfl rfl (vp_in_nI (by omega) (by omega)) dX10_suspects_17 ?_
        refine W.eq (g2 := F0 m 18 ls [.ref (cs_X zc 4 i4)]) (by rw [nI_clamp (by omega), rfN_at hlti4]; rfl) ?_
        have hks : kAll (cF cA zc) [(0, 0), (0, 9), (4, i4), (1, cs_N zc 4 i4), (0, 1), (0, 3)] [cTP zc, cR9 cA zc, cPa zc i4, cPi zc (cs_N zc 4 i4), cLo zc, cA3 cA zc] := ⟨(kF_tp (cA := cA) (z := zc)), (kF_r9 (cA := cA) (z := zc)), (kF_pa (z := zc) hlti4), (kF_pi (z := zc) (j := cs_N zc 4 i4) (hpk i4 hlti4)), (kF_lo (cA := cA) (z := zc)), (kF_a3 (cA := cA) (z := zc)), trivial⟩
        have hP : va_P (dC, dI) vwCl [cTP zc, cR9 cA zc, cPa zc i4, cPi zc (cs_N zc 4 i4), cLo zc, cA3 cA zc] s.heap := kAll_P hPk hks
        have hD : va_D (va_A [cTP zc, cR9 cA zc, cPa zc i4, cPi zc (cs_N zc 4 i4), cLo zc, cA3 cA zc] s.heap.size) [cTP zc, cR9 cA zc, cPa zc i4, cPi zc (cs_N zc 4 i4), cLo zc, cA3 cA zc] := (kAll_D hDk hks (by simp)).self
        have hA : ∀ q : Nat, s.heap.size ≤ q → va_A [cTP zc, cR9 cA zc, cPa zc i4, cPi zc (cs_N zc 4 i4), cLo zc, cA3 cA zc] s.heap.size q := fun q h => Or.inr h
        have hS : va_S (va_A [cTP zc, cR9 cA zc, cPa zc i4, cPi zc (cs_N zc 4 i4), cLo zc, cA3 cA zc] s.heap.size) s.heap s.heap [] := va_S.rf
        refine lv_aload_n hx hb dX10_suspects_18 rfl (lv_at hl 2 rfl) ?_
        refine va_get (D := (dC, dI)) (ci := 10) (v := .ref (cs_X zc 0 1)) (C := RX10) (T := TX10) (N := 13) hx hb hts hiX10 hown hK hP 0 rfl rfl 0 (by decide) (hts (.fieldLink RX10 12 "TributePitches" "lode" "LTributePitches$Lode;") (by decide +kernel)) (fun _ h9 => h9) rfl dX10_suspects_19 ?_
        have hPc := hP.sub (ws' := [cPa zc i4, cPi zc (cs_N zc 4 i4), cLo zc, cA3 cA zc]) [2, 3, 4, 5] rfl
        have hDc := hD.sub (ws' := [cPa zc i4, cPi zc (cs_N zc 4 i4), cLo zc, cA3 cA zc]) [2, 3, 4, 5] (by decide) rfl
        have hKc := hK.sub (tys' := [(cA 0, .int)]) [0] rfl
        refine vp_callSi (va_Run.run (va_runV (As := [.ref (cs_X zc 0 1)]) (rest := []) ⟨hx, hb, hml, hown, hts⟩ (s_isSuspect l dC dI (cA 0) _ (cs_X zc 4 i4) (cs_X zc 1 (cs_N zc 4 i4)) (cs_X zc 0 1) (cs_X zc 0 3) (.int (nI (cs_N zc 4 i4))) (.int (cs_I zc 15 (cs_N zc 4 i4))) (.int (cs_I zc 16 (cs_N zc 4 i4))) (va_rf (opN (cs_N zc 0 (cs_N zc 4 i4)) (cs_X zc 3))) (cs_I zc 11 (cs_N zc 4 i4)) (cs_I zc 12 (cs_N zc 4 i4)) (cs_I zc 13 (cs_N zc 4 i4)) (cs_I zc 14 (cs_N zc 4 i4)) (rXa zc (cs_N zc 4 i4)) (rWa zc (cs_N zc 4 i4)) (rYa zc (cs_N zc 4 i4)) (rHa zc (cs_N zc 4 i4)) (cs_I zc 1) (.ref (cs_X zc 0 2)) (.ref (cs_X zc 0 4)) (.ref (cs_X zc 0 5)) (.int (cs_i zc 0)) (cs_I zc 40 i4) (rectF hI (hpk i4 hlti4)).1 (rectF hI (hpk i4 hlti4)).2.1 (rectF hI (hpk i4 hlti4)).2.2.1 (rectF hI (hpk i4 hlti4)).2.2.2.1 (rectF hI (hpk i4 hlti4)).2.2.2.2.1 (rectF hI (hpk i4 hlti4)).2.2.2.2.2) (cwV 1 hts gX10_suspects_X5_isSuspect rfl rfl rfl (by decide +kernel) ⟨Nat.le_of_ble_eq_true rfl, Nat.le_of_ble_eq_true rfl⟩) (pw_preV (va_recv hKc hPc (ci := 5) (q0 := 0) rfl rfl) hPc hKc hDc hN) rfl rfl hl.1 rfl (lv_room (Nat.le_of_ble_eq_true rfl)) dX10_suspects_22 ⟨Nat.le_of_ble_eq_true rfl, Nat.le_of_ble_eq_true rfl⟩)) (fun r2 hr2 => ?_)
        have hr2 : r2 = if pmax (cs_I zc 1) (rXa zc (cs_N zc 4 i4)) (rWa zc (cs_N zc 4 i4)) (rYa zc (cs_N zc 4 i4)) ((rHa zc (cs_N zc 4 i4)) + 1) < (cs_I zc 40 i4) then 1 else 0 := hr2
        have hr2 : r2 = if psus zc i4 = true then 1 else 0 := by rw [hr2]; simp [psus]
        refine lv_if_eq (tgt := 31) hx hb dX10_suspects_25 (by decide) (fun c3 => ?_) (fun c3 => ?_)
        · skip
          have c3 := (fa_bool_prop hr2).1.mp c3
          refine lv_iinc (v := nI (i4 + 1)) (lv' := [(2, .int (nI (i4 + 1))), (1, .int (nI (fa_cnt (psus zc) i4))), (0, .ref (cs_X zc 0 0))]) hx hb dX10_suspects_31 hl (k := 0) rfl (nI_1 i4) (by decide) rfl (fun ls hl => ?_)
          refine lv_goto (tgt := 4) hx hb dX10_suspects_34 (by decide) ?_
          have e9 : fa_cnt (psus zc) (i4 + 1) = fa_cnt (psus zc) i4 := fa_cnt_no (by simpa using c3)
          rw [← e9] at hl
          have hl : lv_has ls 3 [(2, .int (nI (i4 + 1))), (1, .int (nI (fa_cnt (psus zc) (i4 + 1)))), (0, .ref (cs_X zc 0 0))] := hl
          exact ihi4 (i4 + 1)  ls (by omega) (by omega)  (lv_sub hl [0, 1, 2] rfl)
        · skip
          have c3 := (fa_bool_prop hr2).2.mp c3
          refine lv_iinc (v := nI (fa_cnt (psus zc) i4 + 1)) (lv' := [(1, .int (nI (fa_cnt (psus zc) i4 + 1))), (2, .int (nI i4)), (0, .ref (cs_X zc 0 0))]) hx hb dX10_suspects_28 hl (k := 1) rfl (nI_1 _) (by decide) rfl (fun ls hl => ?_)
          refine lv_iinc (v := nI (i4 + 1)) (lv' := [(2, .int (nI (i4 + 1))), (1, .int (nI (fa_cnt (psus zc) i4 + 1))), (0, .ref (cs_X zc 0 0))]) hx hb dX10_suspects_31 hl (k := 1) rfl (nI_1 i4) (by decide) rfl (fun ls hl => ?_)
          refine lv_goto (tgt := 4) hx hb dX10_suspects_34 (by decide) ?_
          have e9 : fa_cnt (psus zc) (i4 + 1) = fa_cnt (psus zc) i4 + 1 := fa_cnt_yes c3
          rw [← e9] at hl
          have hl : lv_has ls 3 [(2, .int (nI (i4 + 1))), (1, .int (nI (fa_cnt (psus zc) (i4 + 1)))), (0, .ref (cs_X zc 0 0))] := hl
          exact ihi4 (i4 + 1)  ls (by omega) (by omega)  (lv_sub hl [0, 1, 2] rfl)
  exact loop4 ((cs_n zc 3) + 1 - 0) 0  ls (by omega) (by omega)  (lv_sub hl [0, 1, 2] rfl)
