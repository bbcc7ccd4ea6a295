theorem rect_ok {x y xx yy : Int32} {n : Nat} (h1 : (0 ≤ x ∧ x ≤ 7) ∧ (0 ≤ y ∧ y ≤ 5)) (h2 : (0 ≤ xx ∧ xx ≤ 7) ∧ (0 ≤ yy ∧ yy ≤ 5)) (h3 : ¬ xx < x) (h4 : ¬ yy < y) : (0 ≤ x.toInt ∧ x.toInt ≤ xx.toInt ∧ xx.toInt ≤ 7) ∧ (0 ≤ y.toInt ∧ y.toInt ≤ yy.toInt ∧ yy.toInt ≤ 5) ∧ 0 ≤ n :=
  ⟨⟨(fa_le _ _).mp h1.1.1, (fa_le _ _).mp (Int32.not_lt.mp h3), (fa_le _ _).mp h2.1.2⟩, ⟨(fa_le _ _).mp h1.2.1, (fa_le _ _).mp (Int32.not_lt.mp h4), (fa_le _ _).mp h2.2.2⟩, Nat.zero_le _⟩
set_option maxHeartbeats 4000000 in
set_option maxRecDepth 100000 in
theorem P_isAnyPitched (l : Launch) (dC : Nat → ClassId) (dI : Nat → Nat → Nat) (cA : Nat → ClassId) (sz : Nat) (zc : CS) (x : Int32) (y : Int32) (xx : Int32) (yy : Int32) (hI : invC zc) : Met l yX10_isAnyPitched wsX10_isAnyPitched ({ frames := 1, cells := 0, slots := 0, locals := 30 }) (kw (dC, dI) (ctys cA) (cF cA zc) sz [.ref (cs_X zc 0 0), .int x, .int y, .int xx, .int yy]) (vp_Si (fun r => (r = 0 ∧ ∀ p, p < cs_n zc 0 → ¬ (cs_I zc 11 p ≤ xx ∧ x ≤ cs_I zc 13 p ∧ cs_I zc 12 p ≤ yy ∧ y ≤ cs_I zc 14 p)) ∨ (r = 1 ∧ ∃ p, p < cs_n zc 0 ∧ (cs_I zc 11 p ≤ xx ∧ x ≤ cs_I zc 13 p ∧ cs_I zc 12 p ≤ yy ∧ y ≤ cs_I zc 14 p)))) 0 0 (fun _ => False) := by
  refine kw_met (cc := cX10_isAnyPitched) (maxL := 6) (ret := (some .boolean)) (by decide) rfl (Nat.le_of_ble_eq_true rfl) ?_
  intro p e s m below meth c0 hx hb hr hml hown hlocks hnm hts hPk hKk hDk hN hsz ls hl
  subst hsz
  have hK : va_K (dC, dI) vwCl [(cA 0, .int), (cA 1, .object RX6), (cA 2, .object RX2), (cA 3, .object RX8), (cA 4, .object RX5), (cA 5, .object RX7)] s := hKk
  obtain ⟨⟨hn0, hn1, hn2, hn3, hn4, hn5⟩, hpi, hgk, htk, hpk, hsh⟩ := id hI
  have hl : lv_has ls 6 [(0, .ref (cs_X zc 0 0)), (1, .int x), (2, .int y), (3, .int xx), (4, .int yy)] := hl
  have hiX10 : ∀ w ∈ wsX100, w ∈ wsX10_isAnyPitched := by decide +kernel
  generalize hQ : MQ _ _ _ _ _ _ _ = Q
  have hks : kAll (cF cA zc) [(0, 0), (0, 6)] [cTP zc, cR6 cA zc] := ⟨(kF_tp (cA := cA) (z := zc)), (kF_r6 (cA := cA) (z := zc)), trivial⟩
  have hP : va_P (dC, dI) vwCl [cTP zc, cR6 cA zc] s.heap := kAll_P hPk hks
  have hD : va_D (va_A [cTP zc, cR6 cA zc] s.heap.size) [cTP zc, cR6 cA zc] := (kAll_D hDk hks (by simp)).self
  have hA : ∀ q : Nat, s.heap.size ≤ q → va_A [cTP zc, cR6 cA zc] s.heap.size q := fun q h => Or.inr h
  have hS : va_S (va_A [cTP zc, cR6 cA zc] s.heap.size) s.heap s.heap [] := va_S.rf
  refine lv_iconst (v := 0) hx hb dX10_isAnyPitched_0 (by decide) ?_
  refine lv_istore (lv' := [(5, .int 0), (0, .ref (cs_X zc 0 0)), (1, .int x), (2, .int y), (3, .int xx), (4, .int yy)]) hx hb dX10_isAnyPitched_1 hl (by decide) rfl (fun ls hl => ?_)
  have loop3 : ∀ (ni3 i3 : Nat) (ls : Array Slot), i3 ≤ (cs_n zc 0) → (cs_n zc 0) + 1 ≤ i3 + ni3 → (∀ p, p < i3 → ¬ (cs_I zc 11 p ≤ xx ∧ x ≤ cs_I zc 13 p ∧ cs_I zc 12 p ≤ yy ∧ y ≤ cs_I zc 14 p)) → lv_has ls 6 [(5, .int (nI i3)), (0, .ref (cs_X zc 0 0)), (1, .int x), (2, .int y), (3, .int xx), (4, .int yy)] → W p l e ({ frames := 1, cells := 0, slots := 0, locals := 30 } : Room) s m ([.ref (cs_X zc 0 0), .int x, .int y, .int xx, .int yy] : List Value).toArray below meth c0 s.heap [] 0 0 Q (F0 m 3 ls []) := by
    intro ni3
    induction ni3 with
    | zero =>
      intro i3  ls h1 h2
      exact absurd h2 (by omega)
    | succ ni3 ihi3 =>
      intro i3  ls hlei3 hni3 hall hl
      refine lv_iload hx hb dX10_isAnyPitched_3 (lv_at hl 0 rfl) ?_
      refine lv_aload_n hx hb dX10_isAnyPitched_5 rfl (lv_at hl 1 rfl) ?_
      refine va_get (D := (dC, dI)) (ci := 10) (v := .int (nI (cs_n zc 0))) (C := RX10) (T := TX10) (N := 13) hx hb hts hiX10 hown hK hP 0 rfl rfl 7 (by decide) (hts (.fieldLink RX10 124 "TributePitches" "pitchCount" "I") (by decide +kernel)) (fun _ h9 => h9) rfl dX10_isAnyPitched_6 ?_
      refine lv_icmp_ge (tgt := 38) hx hb dX10_isAnyPitched_9 (by decide) (fun c1 => ?_) (fun c1 => ?_)
      · skip
        have hei3 : i3 = (cs_n zc 0) := (Nat.lt_or_ge i3 (cs_n zc 0)).elim (fun q => absurd c1 (by rw [(rfl : nI (cs_n zc 0) = nI (cs_n zc 0))]; exact nI_ge q (by omega))) (fun q => by omega)
        refine lv_iconst (v := 0) hx hb dX10_isAnyPitched_38 (by decide) ?_
        subst hQ
        exact W.zret (v := 0) hx hb hr rfl (fun t ht hW => ⟨0, rfl, (Or.inl ⟨rfl, by rw [← hei3]; exact hall⟩), ht⟩) (fun q h => absurd h List.not_mem_nil) dX10_isAnyPitched_39
      · skip
        have hlti3 : i3 < (cs_n zc 0) := (Nat.lt_or_ge i3 (cs_n zc 0)).elim id (fun q => absurd (by rw [(rfl : nI (cs_n zc 0) = nI (cs_n zc 0))]; exact nI_le q (by omega)) c1)
        refine lv_aload_n hx hb dX10_isAnyPitched_12 rfl (lv_at hl 1 rfl) ?_
        refine va_get (D := (dC, dI)) (ci := 10) (v := .ref (cs_X zc 0 6)) (C := RX10) (T := TX10) (N := 13) hx hb hts hiX10 hown hK hP 0 rfl rfl 1 (by decide) (hts (.fieldLink RX10 20 "TributePitches" "pitches" "[LTributePitches$Pitch;") (by decide +kernel)) (fun _ h9 => h9) rfl dX10_isAnyPitched_13 ?_
        refine lv_iload hx hb dX10_isAnyPitched_16 (lv_at hl 0 rfl) ?_
        refine va_aldq hx hb hK hP 1 1 rfl rfl (vp_in_nI (by omega) (by omega)) dX10_isAnyPitched_18 ?_
        refine W.eq (g2 := F0 m 19 ls [.ref (cs_X zc 1 i3)]) (by rw [nI_clamp (by omega), rfN_at hlti3]; rfl) ?_
        have hks : kAll (cF cA zc) [(0, 0), (0, 6), (1, i3)] [cTP zc, cR6 cA zc, cPi zc i3] := ⟨(kF_tp (cA := cA) (z := zc)), (kF_r6 (cA := cA) (z := zc)), (kF_pi (z := zc) (j := i3) hlti3), trivial⟩
        have hP : va_P (dC, dI) vwCl [cTP zc, cR6 cA zc, cPi zc i3] s.heap := kAll_P hPk hks
        have hD : va_D (va_A [cTP zc, cR6 cA zc, cPi zc i3] s.heap.size) [cTP zc, cR6 cA zc, cPi zc i3] := (kAll_D hDk hks (by simp)).self
        have hA : ∀ q : Nat, s.heap.size ≤ q → va_A [cTP zc, cR6 cA zc, cPi zc i3] s.heap.size q := fun q h => Or.inr h
        have hS : va_S (va_A [cTP zc, cR6 cA zc, cPi zc i3] s.heap.size) s.heap s.heap [] := va_S.rf
        refine lv_iload_n hx hb dX10_isAnyPitched_19 rfl (lv_at hl 2 rfl) ?_
        refine lv_iload_n hx hb dX10_isAnyPitched_20 rfl (lv_at hl 3 rfl) ?_
        refine lv_iload_n hx hb dX10_isAnyPitched_21 rfl (lv_at hl 4 rfl) ?_
        refine lv_iload hx hb dX10_isAnyPitched_22 (lv_at hl 5 rfl) ?_
        have hPc := hP.sub (ws' := [cPi zc i3]) [2] rfl
        have hDc := hD.sub (ws' := [cPi zc i3]) [2] (by decide) rfl
        have hKc := hK.sub (tys' := []) [] rfl
        refine vp_callSi (va_Run.run (va_runV (As := [.int x, .int y, .int xx, .int yy]) (rest := []) ⟨hx, hb, hml, hown, hts⟩ (s_meets l dC dI  _ (cs_X zc 1 i3) (.int (nI i3)) (.int (cs_I zc 15 i3)) (.int (cs_I zc 16 i3)) (va_rf (opN (cs_N zc 0 i3) (cs_X zc 3))) (cs_I zc 11 i3) (cs_I zc 12 i3) (cs_I zc 13 i3) (cs_I zc 14 i3) x y xx yy ) (cwV 4 hts gX10_isAnyPitched_X6_meets rfl rfl rfl (by decide +kernel) ⟨Nat.le_of_ble_eq_true rfl, Nat.le_of_ble_eq_true rfl⟩) (pw_preV (va_recv hKc hPc (ci := 6) (q0 := 0) rfl rfl) hPc hKc hDc hN) rfl rfl hl.1 rfl (lv_room (Nat.le_of_ble_eq_true rfl)) dX10_isAnyPitched_24 ⟨Nat.le_of_ble_eq_true rfl, Nat.le_of_ble_eq_true rfl⟩)) (fun r2 hr2 => ?_)
        have hr2 : r2 = if (cs_I zc 11 i3) ≤ xx ∧ x ≤ (cs_I zc 13 i3) ∧ (cs_I zc 12 i3) ≤ yy ∧ y ≤ (cs_I zc 14 i3) then 1 else 0 := hr2
        refine lv_if_eq (tgt := 32) hx hb dX10_isAnyPitched_27 (by decide) (fun c3 => ?_) (fun c3 => ?_)
        · skip
          have c3 := (fa_bool_prop hr2).1.mp c3
          refine lv_iinc (v := nI (i3 + 1)) (lv' := [(5, .int (nI (i3 + 1))), (0, .ref (cs_X zc 0 0)), (1, .int x), (2, .int y), (3, .int xx), (4, .int yy)]) hx hb dX10_isAnyPitched_32 hl (k := 0) rfl (nI_1 i3) (by decide) rfl (fun ls hl => ?_)
          refine lv_goto (tgt := 3) hx hb dX10_isAnyPitched_35 (by decide) ?_
          exact ihi3 (i3 + 1)  ls (by omega) (by omega) (fun q hq => (Nat.lt_or_ge q i3).elim (fun z => hall q z) (fun z => by have e9 : q = i3 := (by omega); rw [e9]; exact c3)) (lv_sub hl [0, 1, 2, 3, 4, 5] rfl)
        · skip
          have c3 := (fa_bool_prop hr2).2.mp c3
          refine lv_iconst (v := 1) hx hb dX10_isAnyPitched_30 (by decide) ?_
          subst hQ
          exact W.zret (v := 1) hx hb hr rfl (fun t ht hW => ⟨1, rfl, (Or.inr ⟨rfl, i3, hlti3, c3⟩), ht⟩) (fun q h => absurd h List.not_mem_nil) dX10_isAnyPitched_31
  exact loop3 ((cs_n zc 0) + 1 - 0) 0  ls (by omega) (by omega) (fun q hq => absurd hq (Nat.not_lt_zero q)) (lv_sub hl [0, 1, 2, 3, 4, 5] rfl)
