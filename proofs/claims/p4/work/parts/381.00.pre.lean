def ncell (sz i : Int32) : Int32 := if sz < 0 then 1 else if 0 ≤ i.toInt64 ∧ i.toInt64 ≤ sz.toInt64 - 1 then 0 else 3
theorem ncell_le {sz i : Int32} (hs : sz.toInt ≤ 48) (h : ncell sz i ≤ 0) : ∃ a : Nat, a < 48 ∧ i = nI a := by
  unfold ncell at h
  by_cases h1 : sz < 0
  · rw [if_pos h1] at h; exact absurd h (by decide)
  rw [if_neg h1] at h
  by_cases h2 : 0 ≤ i.toInt64 ∧ i.toInt64 ≤ sz.toInt64 - 1
  · have h3 : ¬ i < 0 := fun q => by
      have := h2.1
      rw [show (0 : Int64) = (0 : Int32).toInt64 by decide, fa_wide_le] at this
      exact absurd q (Int32.not_lt.mpr this)
    obtain ⟨a, ha, rfl⟩ := nI_of h3
    have h5 := Int64.le_iff_toInt_le.mp h2.2
    have h6 := Int32.not_lt.mp h1
    have h7 := (fa_le _ _).mp h6
    have z : (0 : Int32).toInt = 0 := by decide
    have o : (1 : Int64).toInt = 1 := by decide
    rw [Int64.toInt_sub, Int32.toInt_toInt64, Int32.toInt_toInt64, nI_toInt ha, o, Int.bmod_eq_of_le (by omega) (by omega)] at h5
    exact ⟨a, by omega, rfl⟩
  · rw [if_neg h2] at h; exact absurd h (by decide)
def onB (f0 f1 f2 f3 : Nat → Int32) (j i : Nat) : Bool := decide ((f0 j ≤ nI (i % 8) ∧ nI (i % 8) ≤ f1 j) ∧ (f2 j ≤ nI (i / 8) ∧ nI (i / 8) ≤ f3 j))
def fsum (P : Nat → Bool) (g : Nat → Int32) : Nat → Int64
  | 0 => 0
  | i + 1 => fsum P g i + (if P i = true then (g i).toInt64 else 0)
def smax (P : Nat → Bool) (g : Nat → Int32) : Nat → Int32
  | 0 => 0
  | i + 1 => if P i = true ∧ smax P g i < g i then g i else smax P g i
def zfill (b : Nat) (f : Nat → Int32) : Nat → Nat → Int32
  | 0 => f
  | i + 1 => upd (zfill b f i) (b + i) 0
theorem shix (a b : Nat) : (48 : Int32) * nI a + nI b = nI (48 * a + b) := by
  rw [show (48 : Int32) * nI a = nI (48 * a) from pk_mul 48 a]
  exact nI_add _ _
theorem k01 {k : Int32} (h : 0 ≤ k ∧ k ≤ 1) : k = 0 ∨ k = 1 := by
  obtain ⟨a, ha, rfl⟩ := nI_of2 (x := k) (M := 1) (n := 1) (by decide) (Int32.not_lt.mpr h.1) h.2
  rcases (show a = 0 ∨ a = 1 by omega) with rfl | rfl
  · exact Or.inl rfl
  · exact Or.inr rfl
set_option maxHeartbeats 4000000 in
set_option maxRecDepth 100000 in
theorem r_noCell (l : Launch) (dC : Nat → ClassId) (dI : Nat → Nat → Nat) (cI : ClassId) (sz : Nat) (qm : Nat) (w0 : Value) (w1 : Value) (w2 : Value) (w3 : Value) (w4 : Value) (w5 : Value) (w6 : Value) (w8 : Value) (w9 : Value) (w10 : Value) (w11 : Value) (w12 : Value) (w13 : Value) (w14 : Value) (w15 : Value) (w16 : Value) (w17 : Value) (w18 : Value) (w19 : Value) (w20 : Value) (w21 : Value) (w22 : Value) (w23 : Value) (w24 : Value) (w25 : Value) (w26 : Value) (w27 : Value) (w28 : Value) (w29 : Value) (w30 : Value) (w31 : Value) (w32 : Value) (w33 : Value) (w34 : Value) (w35 : Value) (w36 : Value) (w37 : Value) (w38 : Value) (ss : Nat) (j : Nat) (i : Int32) (f : Nat → Int32) (hj : j < 4) : Met l yX11_noCell wsX11_noCell ({ frames := 1, cells := 0, slots := 0, locals := 30 }) (pw (dC, dI) [(cI, .int)] [(qm, .inr (11, [w0, w1, w2, w3, w4, w5, w6, .ref ss, w8, w9, w10, w11, w12, w13, w14, w15, w16, w17, w18, w19, w20, w21, w22, w23, w24, w25, w26, w27, w28, w29, w30, w31, w32, w33, w34, w35, w36, w37, w38])), (ss, .inl (cI, 4, .inl f))] sz [.ref qm, .int (nI j), .int i]) (vp_Si (fun r => r = ncell (f j) i)) 0 0 (fun _ => False) := by
  refine pw_met (cc := cX11_noCell) (maxL := 3) (ret := (some .int)) (by decide) rfl (Nat.le_of_ble_eq_true rfl) ?_
  intro p e s m below meth c0 hx hb hr hml hown hlocks hnm hts hP hK hD hN hsz hA hS ls hl
  have hl : lv_has ls 3 [(0, .ref qm), (1, .int (nI j)), (2, .int i)] := hl
  have hiX11 : ∀ w ∈ wsX110, w ∈ wsX11_noCell := by decide +kernel
  generalize hQ : MQ _ _ _ _ _ _ _ = Q
  refine lv_aload_n hx hb dX11_noCell_0 rfl (lv_at hl 0 rfl) ?_
  refine va_get (D := (dC, dI)) (ci := 11) (v := .ref ss) (C := RX11) (T := TX11) (N := 39) hx hb hts hiX11 hown hK hP 0 rfl rfl 7 (by decide) (hts (.fieldLink RX11 22 "TributePitchesModel" "sheetSize" "[I") (by decide +kernel)) (fun _ h9 => h9) rfl dX11_noCell_1 ?_
  refine lv_iload_n hx hb dX11_noCell_4 rfl (lv_at hl 1 rfl) ?_
  refine va_iald hx hb hK hP 1 0 rfl rfl (vp_in_nI (by omega) (by omega)) dX11_noCell_5 ?_
  refine lv_topi (fun v1 ev1 => ?_)
  have ev1 : v1 = f j := by rw [ev1]; rw [nI_clamp (by omega)]
  subst ev1
  refine lv_if_ge (tgt := 13) hx hb dX11_noCell_6 (by decide) (fun c2 => ?_) (fun c2 => ?_)
  · skip
    refine lv_iload_n hx hb dX11_noCell_13 rfl (lv_at hl 2 rfl) ?_
    refine lv_i2l (v := i.toInt64) hx hb dX11_noCell_14 rfl ?_
    refine lv_lconst (v := 0) hx hb dX11_noCell_15 (by decide) ?_
    refine lv_aload_n hx hb dX11_noCell_16 rfl (lv_at hl 0 rfl) ?_
    refine va_get (D := (dC, dI)) (ci := 11) (v := .ref ss) (C := RX11) (T := TX11) (N := 39) hx hb hts hiX11 hown hK hP 0 rfl rfl 7 (by decide) (hts (.fieldLink RX11 22 "TributePitchesModel" "sheetSize" "[I") (by decide +kernel)) (fun _ h9 => h9) rfl dX11_noCell_17 ?_
    refine lv_iload_n hx hb dX11_noCell_20 rfl (lv_at hl 1 rfl) ?_
    refine va_iald hx hb hK hP 1 0 rfl rfl (vp_in_nI (by omega) (by omega)) dX11_noCell_21 ?_
    refine lv_topi (fun v3 ev3 => ?_)
    have ev3 : v3 = f j := by rw [ev3]; rw [nI_clamp (by omega)]
    subst ev3
    refine lv_i2l (v := (f j).toInt64) hx hb dX11_noCell_22 rfl ?_
    refine lv_lconst (v := 1) hx hb dX11_noCell_23 (by decide) ?_
    refine lv_lsub hx hb dX11_noCell_24 ?_
    refine vp_callSi (va_Run.run (va_runS (As := [.long i.toInt64, .long 0, .long (((f j).toInt64) - 1)]) (rest := []) ⟨hx, hb, hml, hown, hts⟩ (c_X11_in l i.toInt64 0 (((f j).toInt64) - 1) ) (va_cwS 3 hts gX11_noCell_X11_in rfl rfl rfl (by decide +kernel) ⟨Nat.le_of_ble_eq_true rfl, Nat.le_of_ble_eq_true rfl⟩) (p0_preS hN) rfl rfl hl.1 rfl (lv_room (Nat.le_of_ble_eq_true rfl)) dX11_noCell_25 ⟨Nat.le_of_ble_eq_true rfl, Nat.le_of_ble_eq_true rfl⟩)) (fun r4 hr4 => ?_)
    have hr4 : r4 = if 0 ≤ i.toInt64 ∧ i.toInt64 ≤ (((f j).toInt64) - 1) then 1 else 0 := hr4
    refine lv_if_eq (tgt := 35) hx hb dX11_noCell_28 (by decide) (fun c5 => ?_) (fun c5 => ?_)
    · skip
      have c5 := (fa_bool_prop hr4).1.mp c5
      refine lv_iconst (v := 3) hx hb dX11_noCell_35 (by decide) ?_
      subst hQ
      exact W.iret (v := 3) hx hb hr (fun t ht hW => ⟨3, rfl, (by rw [ncell, if_neg (Int32.not_lt.mpr c2), if_neg c5]), ht⟩) (fun q h => absurd h List.not_mem_nil) dX11_noCell_36
    · skip
      have c5 := (fa_bool_prop hr4).2.mp c5
      refine lv_iconst (v := 0) hx hb dX11_noCell_31 (by decide) ?_
      refine lv_goto (tgt := 36) hx hb dX11_noCell_32 (by decide) ?_
      subst hQ
      exact W.iret (v := 0) hx hb hr (fun t ht hW => ⟨0, rfl, (by rw [ncell, if_neg (Int32.not_lt.mpr c2), if_pos c5]), ht⟩) (fun q h => absurd h List.not_mem_nil) dX11_noCell_36
  · skip
    refine lv_iconst (v := 1) hx hb dX11_noCell_9 (by decide) ?_
    refine lv_goto (tgt := 36) hx hb dX11_noCell_10 (by decide) ?_
    subst hQ
    exact W.iret (v := 1) hx hb hr (fun t ht hW => ⟨1, rfl, (by rw [ncell, if_pos (Int32.not_le.mp c2)]), ht⟩) (fun q h => absurd h List.not_mem_nil) dX11_noCell_36
set_option maxHeartbeats 4000000 in
set_option maxRecDepth 100000 in
theorem r_isBeyond (l : Launch) (i : Int32) (n : Int32) (al : Int32)  : Met l yX11_isBeyond wsX11_isBeyond ({ frames := 0, cells := 0, slots := 0, locals := 0 }) (p0 [.int i, .int n, .int al]) (vp_Si (fun r => r = if ¬ (0 ≤ i ∧ 0 ≤ n ∧ i.toInt64 + n.toInt64 ≤ al.toInt64) then 1 else 0)) 0 0 (fun _ => False) := by
  refine p0_met (cc := cX11_isBeyond) (maxL := 3) (ret := (some .boolean)) (by decide) rfl (Nat.le_of_ble_eq_true rfl) ?_
  intro p e s m below meth c0 hx hb hr hml hown hlocks hnm hts hN ls hl
  have hl : lv_has ls 3 [(0, .int i), (1, .int n), (2, .int al)] := hl
  generalize hQ : MQ _ _ _ _ _ _ _ = Q
  refine lv_iload_n hx hb dX11_isBeyond_0 rfl (lv_at hl 0 rfl) ?_
  refine lv_if_lt (tgt := 19) hx hb dX11_isBeyond_1 (by decide) (fun c1 => ?_) (fun c1 => ?_)
  · skip
    refine lv_iconst (v := 1) hx hb dX11_isBeyond_19 (by decide) ?_
    refine lv_goto (tgt := 24) hx hb dX11_isBeyond_20 (by decide) ?_
    subst hQ
    exact W.zret (v := 1) hx hb hr rfl (fun t ht hW => ⟨1, rfl, (by rw [if_pos (fun q => absurd c1 (Int32.not_lt.mpr q.1))]), ht⟩) (fun q h => absurd h List.not_mem_nil) dX11_isBeyond_24
  · skip
    refine lv_iload_n hx hb dX11_isBeyond_4 rfl (lv_at hl 1 rfl) ?_
    refine lv_if_lt (tgt := 19) hx hb dX11_isBeyond_5 (by decide) (fun c2 => ?_) (fun c2 => ?_)
    · skip
      refine lv_iconst (v := 1) hx hb dX11_isBeyond_19 (by decide) ?_
      refine lv_goto (tgt := 24) hx hb dX11_isBeyond_20 (by decide) ?_
      subst hQ
      exact W.zret (v := 1) hx hb hr rfl (fun t ht hW => ⟨1, rfl, (by rw [if_pos (fun q => absurd c2 (Int32.not_lt.mpr q.2.1))]), ht⟩) (fun q h => absurd h List.not_mem_nil) dX11_isBeyond_24
    · skip
      refine lv_iload_n hx hb dX11_isBeyond_8 rfl (lv_at hl 0 rfl) ?_
      refine lv_i2l (v := i.toInt64) hx hb dX11_isBeyond_9 rfl ?_
      refine lv_iload_n hx hb dX11_isBeyond_10 rfl (lv_at hl 1 rfl) ?_
      refine lv_i2l (v := n.toInt64) hx hb dX11_isBeyond_11 rfl ?_
      refine lv_ladd hx hb dX11_isBeyond_12 ?_
      refine lv_iload_n hx hb dX11_isBeyond_13 rfl (lv_at hl 2 rfl) ?_
      refine lv_i2l (v := al.toInt64) hx hb dX11_isBeyond_14 rfl ?_
      refine W.lcmp hx hb dX11_isBeyond_15 ?_
      refine lv_if_le (tgt := 23) hx hb dX11_isBeyond_16 (by decide) (fun c3 => ?_) (fun c3 => ?_)
      · skip
        have c3 := (lg_cmp_le _ _).mp c3
        refine lv_iconst (v := 0) hx hb dX11_isBeyond_23 (by decide) ?_
        subst hQ
        exact W.zret (v := 0) hx hb hr rfl (fun t ht hW => ⟨0, rfl, (by rw [if_neg (not_not_intro ⟨Int32.not_lt.mp c1, Int32.not_lt.mp c2, c3⟩)]), ht⟩) (fun q h => absurd h List.not_mem_nil) dX11_isBeyond_24
      · skip
        have c3 := fun h => c3 ((lg_cmp_le _ _).mpr h)
        refine lv_iconst (v := 1) hx hb dX11_isBeyond_19 (by decide) ?_
        refine lv_goto (tgt := 24) hx hb dX11_isBeyond_20 (by decide) ?_
        subst hQ
        exact W.zret (v := 1) hx hb hr rfl (fun t ht hW => ⟨1, rfl, (by rw [if_pos (fun q => c3 q.2.2)]), ht⟩) (fun q h => absurd h List.not_mem_nil) dX11_isBeyond_24
set_option maxHeartbeats 4000000 in
set_option maxRecDepth 100000 in
theorem r_isOn (l : Launch) (dC : Nat → ClassId) (dI : Nat → Nat → Nat) (cI : ClassId) (sz : Nat) (qm : Nat) (w0 : Value) (w1 : Value) (w2 : Value) (w3 : Value) (w4 : Value) (w5 : Value) (w6 : Value) (w7 : Value) (w8 : Value) (w9 : Value) (w10 : Value) (w11 : Value) (w16 : Value) (w17 : Value) (w18 : Value) (w19 : Value) (w20 : Value) (w21 : Value) (w22 : Value) (w23 : Value) (w24 : Value) (w25 : Value) (w26 : Value) (w27 : Value) (w28 : Value) (w29 : Value) (w30 : Value) (w31 : Value) (w32 : Value) (w33 : Value) (w34 : Value) (w35 : Value) (w36 : Value) (w37 : Value) (w38 : Value) (ra : Nat) (rb : Nat) (rc : Nat) (rd : Nat) (j : Nat) (i : Nat) (f0 : Nat → Int32) (f1 : Nat → Int32) (f2 : Nat → Int32) (f3 : Nat → Int32) (hj : j < 12) (hi : i < 48) : Met l yX11_isOn wsX11_isOn ({ frames := 1, cells := 0, slots := 0, locals := 30 }) (pw (dC, dI) [(cI, .int)] [(qm, .inr (11, [w0, w1, w2, w3, w4, w5, w6, w7, w8, w9, w10, w11, .ref ra, .ref rc, .ref rb, .ref rd, w16, w17, w18, w19, w20, w21, w22, w23, w24, w25, w26, w27, w28, w29, w30, w31, w32, w33, w34, w35, w36, w37, w38])), (ra, .inl (cI, 12, .inl f0)), (rb, .inl (cI, 12, .inl f1)), (rc, .inl (cI, 12, .inl f2)), (rd, .inl (cI, 12, .inl f3))] sz [.ref qm, .int (nI j), .int (nI i)]) (vp_Si (fun r => r = if onB f0 f1 f2 f3 j i = true then 1 else 0)) 0 0 (fun _ => False) := by
  refine pw_met (cc := cX11_isOn) (maxL := 3) (ret := (some .boolean)) (by decide) rfl (Nat.le_of_ble_eq_true rfl) ?_
  intro p e s m below meth c0 hx hb hr hml hown hlocks hnm hts hP hK hD hN hsz hA hS ls hl
  have hl : lv_has ls 3 [(0, .ref qm), (1, .int (nI j)), (2, .int (nI i))] := hl
  have hiX11 : ∀ w ∈ wsX110, w ∈ wsX11_isOn := by decide +kernel
  generalize hQ : MQ _ _ _ _ _ _ _ = Q
  refine lv_iload_n hx hb dX11_isOn_0 rfl (lv_at hl 2 rfl) ?_
  refine lv_bipush (v := 8) hx hb dX11_isOn_1 (by decide) ?_
  refine lv_irem hx hb dX11_isOn_3 (by decide) ?_
  refine lv_topi (fun v3 ev3 => ?_)
  have ev3 : v3 = nI (i % 8) := by rw [ev3]; exact pk_rem (d := 8) (by omega) (by decide) (by decide)
  subst ev3
  refine lv_i2l (v := (nI (i % 8)).toInt64) hx hb dX11_isOn_4 rfl ?_
  refine lv_aload_n hx hb dX11_isOn_5 rfl (lv_at hl 0 rfl) ?_
  refine va_get (D := (dC, dI)) (ci := 11) (v := .ref ra) (C := RX11) (T := TX11) (N := 39) hx hb hts hiX11 hown hK hP 0 rfl rfl 12 (by decide) (hts (.fieldLink RX11 34 "TributePitchesModel" "fromX" "[I") (by decide +kernel)) (fun _ h9 => h9) rfl dX11_isOn_6 ?_
  refine lv_iload_n hx hb dX11_isOn_9 rfl (lv_at hl 1 rfl) ?_
  refine va_iald hx hb hK hP 1 0 rfl rfl (vp_in_nI (by omega) (by omega)) dX11_isOn_10 ?_
  refine lv_topi (fun v1 ev1 => ?_)
  have ev1 : v1 = f0 j := by rw [ev1]; rw [nI_clamp (by omega)]
  subst ev1
  refine lv_i2l (v := (f0 j).toInt64) hx hb dX11_isOn_11 rfl ?_
  refine lv_aload_n hx hb dX11_isOn_12 rfl (lv_at hl 0 rfl) ?_
  refine va_get (D := (dC, dI)) (ci := 11) (v := .ref rb) (C := RX11) (T := TX11) (N := 39) hx hb hts hiX11 hown hK hP 0 rfl rfl 14 (by decide) (hts (.fieldLink RX11 40 "TributePitchesModel" "toX" "[I") (by decide +kernel)) (fun _ h9 => h9) rfl dX11_isOn_13 ?_
  refine lv_iload_n hx hb dX11_isOn_16 rfl (lv_at hl 1 rfl) ?_
  refine va_iald hx hb hK hP 2 0 rfl rfl (vp_in_nI (by omega) (by omega)) dX11_isOn_17 ?_
  refine lv_topi (fun v2 ev2 => ?_)
  have ev2 : v2 = f1 j := by rw [ev2]; rw [nI_clamp (by omega)]
  subst ev2
  refine lv_i2l (v := (f1 j).toInt64) hx hb dX11_isOn_18 rfl ?_
  refine vp_callSi (va_Run.run (va_runS (As := [.long ((nI (i % 8)).toInt64), .long ((f0 j).toInt64), .long ((f1 j).toInt64)]) (rest := []) ⟨hx, hb, hml, hown, hts⟩ (c_X11_in l ((nI (i % 8)).toInt64) ((f0 j).toInt64) ((f1 j).toInt64) ) (va_cwS 3 hts gX11_isOn_X11_in rfl rfl rfl (by decide +kernel) ⟨Nat.le_of_ble_eq_true rfl, Nat.le_of_ble_eq_true rfl⟩) (p0_preS hN) rfl rfl hl.1 rfl (lv_room (Nat.le_of_ble_eq_true rfl)) dX11_isOn_19 ⟨Nat.le_of_ble_eq_true rfl, Nat.le_of_ble_eq_true rfl⟩)) (fun r3 hr3 => ?_)
  have hr3 : r3 = if ((f0 j).toInt64) ≤ ((nI (i % 8)).toInt64) ∧ ((nI (i % 8)).toInt64) ≤ ((f1 j).toInt64) then 1 else 0 := hr3
  have hr3 := hr3.trans (in_w _ (f0 j) (f1 j) rfl rfl)
  refine lv_if_eq (tgt := 54) hx hb dX11_isOn_22 (by decide) (fun c4 => ?_) (fun c4 => ?_)
  · skip
    have c4 := (fa_bool_prop hr3).1.mp c4
    refine lv_iconst (v := 0) hx hb dX11_isOn_54 (by decide) ?_
    subst hQ
    exact W.zret (v := 0) hx hb hr rfl (fun t ht hW => ⟨0, rfl, (by rw [if_neg (by simp only [onB, decide_eq_true_eq]; exact fun q => c4 q.1)]), ht⟩) (fun q h => absurd h List.not_mem_nil) dX11_isOn_55
  · skip
    have c4 := (fa_bool_prop hr3).2.mp c4
    refine lv_iload_n hx hb dX11_isOn_25 rfl (lv_at hl 2 rfl) ?_
    refine lv_bipush (v := 8) hx hb dX11_isOn_26 (by decide) ?_
    refine lv_idiv hx hb dX11_isOn_28 (by decide) ?_
    refine lv_topi (fun v28 ev28 => ?_)
    have ev28 : v28 = nI (i / 8) := by rw [ev28]; exact pk_div (d := 8) (by omega) (by decide) (by decide)
    subst ev28
    refine lv_i2l (v := (nI (i / 8)).toInt64) hx hb dX11_isOn_29 rfl ?_
    refine lv_aload_n hx hb dX11_isOn_30 rfl (lv_at hl 0 rfl) ?_
    refine va_get (D := (dC, dI)) (ci := 11) (v := .ref rc) (C := RX11) (T := TX11) (N := 39) hx hb hts hiX11 hown hK hP 0 rfl rfl 13 (by decide) (hts (.fieldLink RX11 37 "TributePitchesModel" "fromY" "[I") (by decide +kernel)) (fun _ h9 => h9) rfl dX11_isOn_31 ?_
    refine lv_iload_n hx hb dX11_isOn_34 rfl (lv_at hl 1 rfl) ?_
    refine va_iald hx hb hK hP 3 0 rfl rfl (vp_in_nI (by omega) (by omega)) dX11_isOn_35 ?_
    refine lv_topi (fun v5 ev5 => ?_)
    have ev5 : v5 = f2 j := by rw [ev5]; rw [nI_clamp (by omega)]
    subst ev5
    refine lv_i2l (v := (f2 j).toInt64) hx hb dX11_isOn_36 rfl ?_
    refine lv_aload_n hx hb dX11_isOn_37 rfl (lv_at hl 0 rfl) ?_
    refine va_get (D := (dC, dI)) (ci := 11) (v := .ref rd) (C := RX11) (T := TX11) (N := 39) hx hb hts hiX11 hown hK hP 0 rfl rfl 15 (by decide) (hts (.fieldLink RX11 43 "TributePitchesModel" "toY" "[I") (by decide +kernel)) (fun _ h9 => h9) rfl dX11_isOn_38 ?_
    refine lv_iload_n hx hb dX11_isOn_41 rfl (lv_at hl 1 rfl) ?_
    refine va_iald hx hb hK hP 4 0 rfl rfl (vp_in_nI (by omega) (by omega)) dX11_isOn_42 ?_
    refine lv_topi (fun v6 ev6 => ?_)
    have ev6 : v6 = f3 j := by rw [ev6]; rw [nI_clamp (by omega)]
    subst ev6
    refine lv_i2l (v := (f3 j).toInt64) hx hb dX11_isOn_43 rfl ?_
    refine vp_callSi (va_Run.run (va_runS (As := [.long ((nI (i / 8)).toInt64), .long ((f2 j).toInt64), .long ((f3 j).toInt64)]) (rest := []) ⟨hx, hb, hml, hown, hts⟩ (c_X11_in l ((nI (i / 8)).toInt64) ((f2 j).toInt64) ((f3 j).toInt64) ) (va_cwS 3 hts gX11_isOn_X11_in rfl rfl rfl (by decide +kernel) ⟨Nat.le_of_ble_eq_true rfl, Nat.le_of_ble_eq_true rfl⟩) (p0_preS hN) rfl rfl hl.1 rfl (lv_room (Nat.le_of_ble_eq_true rfl)) dX11_isOn_44 ⟨Nat.le_of_ble_eq_true rfl, Nat.le_of_ble_eq_true rfl⟩)) (fun r7 hr7 => ?_)
    have hr7 : r7 = if ((f2 j).toInt64) ≤ ((nI (i / 8)).toInt64) ∧ ((nI (i / 8)).toInt64) ≤ ((f3 j).toInt64) then 1 else 0 := hr7
    have hr7 := hr7.trans (in_w _ (f2 j) (f3 j) rfl rfl)
    refine lv_if_eq (tgt := 54) hx hb dX11_isOn_47 (by decide) (fun c8 => ?_) (fun c8 => ?_)
    · skip
      have c8 := (fa_bool_prop hr7).1.mp c8
      refine lv_iconst (v := 0) hx hb dX11_isOn_54 (by decide) ?_
      subst hQ
      exact W.zret (v := 0) hx hb hr rfl (fun t ht hW => ⟨0, rfl, (by rw [if_neg (by simp only [onB, decide_eq_true_eq]; exact fun q => c8 q.2)]), ht⟩) (fun q h => absurd h List.not_mem_nil) dX11_isOn_55
    · skip
      have c8 := (fa_bool_prop hr7).2.mp c8
      refine lv_iconst (v := 1) hx hb dX11_isOn_50 (by decide) ?_
      refine lv_goto (tgt := 55) hx hb dX11_isOn_51 (by decide) ?_
      subst hQ
      exact W.zret (v := 1) hx hb hr rfl (fun t ht hW => ⟨1, rfl, (by rw [if_pos (by simp only [onB, decide_eq_true_eq]; exact ⟨c4, c8⟩)]), ht⟩) (fun q h => absurd h List.not_mem_nil) dX11_isOn_55
set_option maxHeartbeats 4000000 in
set_option maxRecDepth 100000 in
theorem r_foretoldOf_0 (l : Launch) (dC : Nat → ClassId) (dI : Nat → Nat → Nat) (cI : ClassId) (sz : Nat) (qm : Nat) (w0 : Value) (w1 : Value) (w3 : Value) (w4 : Value) (w5 : Value) (w6 : Value) (w7 : Value) (w8 : Value) (w9 : Value) (w10 : Value) (w11 : Value) (w17 : Value) (w18 : Value) (w19 : Value) (w20 : Value) (w21 : Value) (w22 : Value) (w23 : Value) (w24 : Value) (w25 : Value) (w26 : Value) (w27 : Value) (w28 : Value) (w29 : Value) (w30 : Value) (w31 : Value) (w32 : Value) (w33 : Value) (w34 : Value) (w35 : Value) (w36 : Value) (w37 : Value) (w38 : Value) (ra : Nat) (rb : Nat) (rc : Nat) (rd : Nat) (re : Nat) (rg : Nat) (j : Nat) (f0 : Nat → Int32) (f1 : Nat → Int32) (f2 : Nat → Int32) (f3 : Nat → Int32) (f4 : Nat → Int32) (g : Nat → Int32) (hj : j < 12) : Met l yX11_foretoldOf wsX11_foretoldOf ({ frames := 2, cells := 0, slots := 0, locals := 60 }) (pw (dC, dI) [(cI, .int)] [(qm, .inr (11, [w0, w1, .ref rg, w3, w4, w5, w6, w7, w8, w9, w10, w11, .ref ra, .ref rc, .ref rb, .ref rd, .ref re, w17, w18, w19, w20, w21, w22, w23, w24, w25, w26, w27, w28, w29, w30, w31, w32, w33, w34, w35, w36, w37, w38])), (ra, .inl (cI, 12, .inl f0)), (rb, .inl (cI, 12, .inl f1)), (rc, .inl (cI, 12, .inl f2)), (rd, .inl (cI, 12, .inl f3)), (re, .inl (cI, 12, .inl f4)), (rg, .inl (cI, 48, .inl g))] sz [.ref qm, .int (nI j), .int 0]) (vp_Sl (fun r => r = fsum (onB f0 f1 f2 f3 j) g 48 * (f4 j).toInt64)) 0 0 (fun _ => False) := by
  refine pw_met (cc := cX11_foretoldOf) (maxL := 6) (ret := (some .long)) (by decide) rfl (Nat.le_of_ble_eq_true rfl) ?_
  intro p e s m below meth c0 hx hb hr hml hown hlocks hnm hts hP hK hD hN hsz hA hS ls hl
  have hl : lv_has ls 6 [(0, .ref qm), (1, .int (nI j)), (2, .int 0)] := hl
  have hiX11 : ∀ w ∈ wsX110, w ∈ wsX11_foretoldOf := by decide +kernel
  generalize hQ : MQ _ _ _ _ _ _ _ = Q
  refine lv_lconst (v := 0) hx hb dX11_foretoldOf_0 (by decide) ?_
  refine lv_lstore_n (lv' := [(3, .long 0), (0, .ref qm), (1, .int (nI j)), (2, .int 0)]) hx hb dX11_foretoldOf_1 rfl hl (by decide) rfl (fun ls hl => ?_)
  refine lv_iconst (v := 0) hx hb dX11_foretoldOf_2 (by decide) ?_
  refine lv_istore (lv' := [(5, .int 0), (3, .long 0), (0, .ref qm), (1, .int (nI j)), (2, .int 0)]) hx hb dX11_foretoldOf_3 hl (by decide) rfl (fun ls hl => ?_)
  have loop5 : ∀ (ni5 i5 : Nat) (ls : Array Slot), i5 ≤ 48 → 48 + 1 ≤ i5 + ni5 → lv_has ls 6 [(5, .int (nI i5)), (3, .long (fsum (onB f0 f1 f2 f3 j) g i5)), (0, .ref qm), (1, .int (nI j)), (2, .int 0)] → W p l e ({ frames := 2, cells := 0, slots := 0, locals := 60 } : Room) s m ([.ref qm, .int (nI j), .int 0] : List Value).toArray below meth c0 s.heap [] 0 0 Q (F0 m 5 ls []) := by
    intro ni5
    induction ni5 with
    | zero =>
      intro i5  ls h1 h2
      exact absurd h2 (by omega)
    | succ ni5 ihi5 =>
      intro i5  ls hlei5 hni5  hl
      refine lv_iload hx hb dX11_foretoldOf_5 (lv_at hl 0 rfl) ?_
      refine lv_bipush (v := 48) hx hb dX11_foretoldOf_7 (by decide) ?_
      refine lv_icmp_ge (tgt := 58) hx hb dX11_foretoldOf_9 (by decide) (fun c1 => ?_) (fun c1 => ?_)
      · skip
        have hei5 : i5 = 48 := (Nat.lt_or_ge i5 48).elim (fun q => absurd c1 (show ¬ nI 48 ≤ nI i5 from nI_ge q (by omega))) (fun q => by omega)
        refine lv_lload_n hx hb dX11_foretoldOf_58 rfl (lv_at hl 1 rfl) ?_
        refine lv_aload_n hx hb dX11_foretoldOf_59 rfl (lv_at hl 2 rfl) ?_
        refine va_get (D := (dC, dI)) (ci := 11) (v := .ref re) (C := RX11) (T := TX11) (N := 39) hx hb hts hiX11 hown hK hP 0 rfl rfl 16 (by decide) (hts (.fieldLink RX11 46 "TributePitchesModel" "tonsOf" "[I") (by decide +kernel)) (fun _ h9 => h9) rfl dX11_foretoldOf_60 ?_
        refine lv_iload_n hx hb dX11_foretoldOf_63 rfl (lv_at hl 3 rfl) ?_
        refine va_iald hx hb hK hP 5 0 rfl rfl (vp_in_nI (by omega) (by omega)) dX11_foretoldOf_64 ?_
        refine lv_topi (fun v2 ev2 => ?_)
        have ev2 : v2 = f4 j := by rw [ev2]; rw [nI_clamp (by omega)]
        subst ev2
        refine lv_i2l (v := (f4 j).toInt64) hx hb dX11_foretoldOf_65 rfl ?_
        refine lv_lmul hx hb dX11_foretoldOf_66 ?_
        subst hQ
        exact W.lret (v := (fsum (onB f0 f1 f2 f3 j) g i5) * ((f4 j).toInt64)) hx hb hr (fun t ht hW => ⟨(fsum (onB f0 f1 f2 f3 j) g i5) * ((f4 j).toInt64), rfl, (by rw [hei5]), ht⟩) (fun q h => absurd h List.not_mem_nil) dX11_foretoldOf_67
      · skip
        have hlti5 : i5 < 48 := (Nat.lt_or_ge i5 48).elim id (fun q => absurd (show nI 48 ≤ nI i5 from nI_le q (by omega)) c1)
        refine lv_lload_n hx hb dX11_foretoldOf_12 rfl (lv_at hl 1 rfl) ?_
        refine lv_aload_n hx hb dX11_foretoldOf_13 rfl (lv_at hl 2 rfl) ?_
        refine lv_iload_n hx hb dX11_foretoldOf_14 rfl (lv_at hl 3 rfl) ?_
        refine lv_iload hx hb dX11_foretoldOf_15 (lv_at hl 0 rfl) ?_
        have hPc := hP.sub (ws' := [(qm, .inr (11, [w0, w1, .ref rg, w3, w4, w5, w6, w7, w8, w9, w10, w11, .ref ra, .ref rc, .ref rb, .ref rd, .ref re, w17, w18, w19, w20, w21, w22, w23, w24, w25, w26, w27, w28, w29, w30, w31, w32, w33, w34, w35, w36, w37, w38])), (ra, .inl (cI, 12, .inl f0)), (rb, .inl (cI, 12, .inl f1)), (rc, .inl (cI, 12, .inl f2)), (rd, .inl (cI, 12, .inl f3))]) [0, 1, 2, 3, 4] rfl
        have hDc := hD.sub (ws' := [(qm, .inr (11, [w0, w1, .ref rg, w3, w4, w5, w6, w7, w8, w9, w10, w11, .ref ra, .ref rc, .ref rb, .ref rd, .ref re, w17, w18, w19, w20, w21, w22, w23, w24, w25, w26, w27, w28, w29, w30, w31, w32, w33, w34, w35, w36, w37, w38])), (ra, .inl (cI, 12, .inl f0)), (rb, .inl (cI, 12, .inl f1)), (rc, .inl (cI, 12, .inl f2)), (rd, .inl (cI, 12, .inl f3))]) [0, 1, 2, 3, 4] (by decide) rfl
        have hKc := hK.sub (tys' := [(cI, .int)]) [0] rfl
        refine vp_callSi (va_Run.run (va_runV (As := [.int (nI j), .int (nI i5)]) (rest := [.long (fsum (onB f0 f1 f2 f3 j) g i5)]) ⟨hx, hb, hml, hown, hts⟩ (r_isOn l dC dI cI _ qm w0 w1 (.ref rg) w3 w4 w5 w6 w7 w8 w9 w10 w11 (.ref re) w17 w18 w19 w20 w21 w22 w23 w24 w25 w26 w27 w28 w29 w30 w31 w32 w33 w34 w35 w36 w37 w38 ra rb rc rd j i5 f0 f1 f2 f3 hj (by omega)) (cwV 2 hts gX11_foretoldOf_X11_isOn rfl rfl rfl (by decide +kernel) ⟨Nat.le_of_ble_eq_true rfl, Nat.le_of_ble_eq_true rfl⟩) (pw_preV (va_recv hKc hPc (ci := 11) (q0 := 0) rfl rfl) hPc hKc hDc hN) rfl rfl hl.1 rfl (lv_room (Nat.le_of_ble_eq_true rfl)) dX11_foretoldOf_17 ⟨Nat.le_of_ble_eq_true rfl, Nat.le_of_ble_eq_true rfl⟩)) (fun r3 hr3 => ?_)
        have hr3 : r3 = if onB f0 f1 f2 f3 j i5 = true then 1 else 0 := hr3
        refine lv_if_ne (tgt := 27) hx hb dX11_foretoldOf_20 (by decide) (fun c4 => ?_) (fun c4 => ?_)
        · skip
          have c4 := (fa_bool_prop hr3).2.mp c4
          refine lv_iload_n hx hb dX11_foretoldOf_27 rfl (lv_at hl 4 rfl) ?_
          refine lv_if_ne (tgt := 42) hx hb dX11_foretoldOf_28 (by decide) (fun c5 => ?_) (fun c5 => ?_)
          · exact absurd c5 (by decide)
          · skip
            refine lv_aload_n hx hb dX11_foretoldOf_31 rfl (lv_at hl 2 rfl) ?_
            refine va_get (D := (dC, dI)) (ci := 11) (v := .ref rg) (C := RX11) (T := TX11) (N := 39) hx hb hts hiX11 hown hK hP 0 rfl rfl 2 (by decide) (hts (.fieldLink RX11 7 "TributePitchesModel" "low" "[I") (by decide +kernel)) (fun _ h9 => h9) rfl dX11_foretoldOf_32 ?_
            refine lv_iload hx hb dX11_foretoldOf_35 (lv_at hl 0 rfl) ?_
            refine va_iald hx hb hK hP 6 0 rfl rfl (vp_in_nI (by omega) (by omega)) dX11_foretoldOf_37 ?_
            refine lv_topi (fun v6 ev6 => ?_)
            have ev6 : v6 = g i5 := by rw [ev6]; rw [nI_clamp (by omega)]
            subst ev6
            refine lv_i2l (v := (g i5).toInt64) hx hb dX11_foretoldOf_38 rfl ?_
            refine lv_goto (tgt := 50) hx hb dX11_foretoldOf_39 (by decide) ?_
            refine lv_ladd hx hb dX11_foretoldOf_50 ?_
            refine lv_topl (fun vs evs => ?_)
            have evs : vs = fsum (onB f0 f1 f2 f3 j) g (i5 + 1) := by rw [evs]; rw [fsum, if_pos c4]
            subst evs
            refine lv_lstore_n (lv' := [(3, .long (fsum (onB f0 f1 f2 f3 j) g (i5 + 1))), (5, .int (nI i5)), (0, .ref qm), (1, .int (nI j)), (2, .int 0)]) hx hb dX11_foretoldOf_51 rfl hl (by decide) rfl (fun ls hl => ?_)
            refine lv_iinc (v := nI (i5 + 1)) (lv' := [(5, .int (nI (i5 + 1))), (3, .long (fsum (onB f0 f1 f2 f3 j) g (i5 + 1))), (0, .ref qm), (1, .int (nI j)), (2, .int 0)]) hx hb dX11_foretoldOf_52 hl (k := 1) rfl (nI_1 i5) (by decide) rfl (fun ls hl => ?_)
            refine lv_goto (tgt := 5) hx hb dX11_foretoldOf_55 (by decide) ?_
            exact ihi5 (i5 + 1)  ls (by omega) (by omega)  (lv_sub hl [0, 1, 2, 3, 4] rfl)
        · skip
          have c4 := (fa_bool_prop hr3).1.mp c4
          refine lv_lconst (v := 0) hx hb dX11_foretoldOf_23 (by decide) ?_
          refine lv_goto (tgt := 50) hx hb dX11_foretoldOf_24 (by decide) ?_
          refine lv_ladd hx hb dX11_foretoldOf_50 ?_
          refine lv_topl (fun vs evs => ?_)
          have evs : vs = fsum (onB f0 f1 f2 f3 j) g (i5 + 1) := by rw [evs]; rw [fsum, if_neg c4]
          subst evs
          refine lv_lstore_n (lv' := [(3, .long (fsum (onB f0 f1 f2 f3 j) g (i5 + 1))), (5, .int (nI i5)), (0, .ref qm), (1, .int (nI j)), (2, .int 0)]) hx hb dX11_foretoldOf_51 rfl hl (by decide) rfl (fun ls hl => ?_)
          refine lv_iinc (v := nI (i5 + 1)) (lv' := [(5, .int (nI (i5 + 1))), (3, .long (fsum (onB f0 f1 f2 f3 j) g (i5 + 1))), (0, .ref qm), (1, .int (nI j)), (2, .int 0)]) hx hb dX11_foretoldOf_52 hl (k := 1) rfl (nI_1 i5) (by decide) rfl (fun ls hl => ?_)
          refine lv_goto (tgt := 5) hx hb dX11_foretoldOf_55 (by decide) ?_
          exact ihi5 (i5 + 1)  ls (by omega) (by omega)  (lv_sub hl [0, 1, 2, 3, 4] rfl)
  exact loop5 (48 + 1 - 0) 0  ls (by omega) (by omega)  (lv_sub hl [0, 1, 2, 3, 4] rfl)
set_option maxHeartbeats 4000000 in
set_option maxRecDepth 100000 in
theorem r_foretoldOf_1 (l : Launch) (dC : Nat → ClassId) (dI : Nat → Nat → Nat) (cI : ClassId) (sz : Nat) (qm : Nat) (w0 : Value) (w1 : Value) (w2 : Value) (w4 : Value) (w5 : Value) (w6 : Value) (w7 : Value) (w8 : Value) (w9 : Value) (w10 : Value) (w11 : Value) (w17 : Value) (w18 : Value) (w19 : Value) (w20 : Value) (w21 : Value) (w22 : Value) (w23 : Value) (w24 : Value) (w25 : Value) (w26 : Value) (w27 : Value) (w28 : Value) (w29 : Value) (w30 : Value) (w31 : Value) (w32 : Value) (w33 : Value) (w34 : Value) (w35 : Value) (w36 : Value) (w37 : Value) (w38 : Value) (ra : Nat) (rb : Nat) (rc : Nat) (rd : Nat) (re : Nat) (rg : Nat) (j : Nat) (f0 : Nat → Int32) (f1 : Nat → Int32) (f2 : Nat → Int32) (f3 : Nat → Int32) (f4 : Nat → Int32) (g : Nat → Int32) (hj : j < 12) : Met l yX11_foretoldOf wsX11_foretoldOf ({ frames := 2, cells := 0, slots := 0, locals := 60 }) (pw (dC, dI) [(cI, .int)] [(qm, .inr (11, [w0, w1, w2, .ref rg, w4, w5, w6, w7, w8, w9, w10, w11, .ref ra, .ref rc, .ref rb, .ref rd, .ref re, w17, w18, w19, w20, w21, w22, w23, w24, w25, w26, w27, w28, w29, w30, w31, w32, w33, w34, w35, w36, w37, w38])), (ra, .inl (cI, 12, .inl f0)), (rb, .inl (cI, 12, .inl f1)), (rc, .inl (cI, 12, .inl f2)), (rd, .inl (cI, 12, .inl f3)), (re, .inl (cI, 12, .inl f4)), (rg, .inl (cI, 48, .inl g))] sz [.ref qm, .int (nI j), .int 1]) (vp_Sl (fun r => r = fsum (onB f0 f1 f2 f3 j) g 48 * (f4 j).toInt64)) 0 0 (fun _ => False) := by
  refine pw_met (cc := cX11_foretoldOf) (maxL := 6) (ret := (some .long)) (by decide) rfl (Nat.le_of_ble_eq_true rfl) ?_
  intro p e s m below meth c0 hx hb hr hml hown hlocks hnm hts hP hK hD hN hsz hA hS ls hl
  have hl : lv_has ls 6 [(0, .ref qm), (1, .int (nI j)), (2, .int 1)] := hl
  have hiX11 : ∀ w ∈ wsX110, w ∈ wsX11_foretoldOf := by decide +kernel
  generalize hQ : MQ _ _ _ _ _ _ _ = Q
  refine lv_lconst (v := 0) hx hb dX11_foretoldOf_0 (by decide) ?_
  refine lv_lstore_n (lv' := [(3, .long 0), (0, .ref qm), (1, .int (nI j)), (2, .int 1)]) hx hb dX11_foretoldOf_1 rfl hl (by decide) rfl (fun ls hl => ?_)
  refine lv_iconst (v := 0) hx hb dX11_foretoldOf_2 (by decide) ?_
  refine lv_istore (lv' := [(5, .int 0), (3, .long 0), (0, .ref qm), (1, .int (nI j)), (2, .int 1)]) hx hb dX11_foretoldOf_3 hl (by decide) rfl (fun ls hl => ?_)
  have loop5 : ∀ (ni5 i5 : Nat) (ls : Array Slot), i5 ≤ 48 → 48 + 1 ≤ i5 + ni5 → lv_has ls 6 [(5, .int (nI i5)), (3, .long (fsum (onB f0 f1 f2 f3 j) g i5)), (0, .ref qm), (1, .int (nI j)), (2, .int 1)] → W p l e ({ frames := 2, cells := 0, slots := 0, locals := 60 } : Room) s m ([.ref qm, .int (nI j), .int 1] : List Value).toArray below meth c0 s.heap [] 0 0 Q (F0 m 5 ls []) := by
    intro ni5
    induction ni5 with
    | zero =>
      intro i5  ls h1 h2
      exact absurd h2 (by omega)
    | succ ni5 ihi5 =>
      intro i5  ls hlei5 hni5  hl
      refine lv_iload hx hb dX11_foretoldOf_5 (lv_at hl 0 rfl) ?_
      refine lv_bipush (v := 48) hx hb dX11_foretoldOf_7 (by decide) ?_
      refine lv_icmp_ge (tgt := 58) hx hb dX11_foretoldOf_9 (by decide) (fun c1 => ?_) (fun c1 => ?_)
      · skip
        have hei5 : i5 = 48 := (Nat.lt_or_ge i5 48).elim (fun q => absurd c1 (show ¬ nI 48 ≤ nI i5 from nI_ge q (by omega))) (fun q => by omega)
        refine lv_lload_n hx hb dX11_foretoldOf_58 rfl (lv_at hl 1 rfl) ?_
        refine lv_aload_n hx hb dX11_foretoldOf_59 rfl (lv_at hl 2 rfl) ?_
        refine va_get (D := (dC, dI)) (ci := 11) (v := .ref re) (C := RX11) (T := TX11) (N := 39) hx hb hts hiX11 hown hK hP 0 rfl rfl 16 (by decide) (hts (.fieldLink RX11 46 "TributePitchesModel" "tonsOf" "[I") (by decide +kernel)) (fun _ h9 => h9) rfl dX11_foretoldOf_60 ?_
        refine lv_iload_n hx hb dX11_foretoldOf_63 rfl (lv_at hl 3 rfl) ?_
        refine va_iald hx hb hK hP 5 0 rfl rfl (vp_in_nI (by omega) (by omega)) dX11_foretoldOf_64 ?_
        refine lv_topi (fun v2 ev2 => ?_)
        have ev2 : v2 = f4 j := by rw [ev2]; rw [nI_clamp (by omega)]
        subst ev2
        refine lv_i2l (v := (f4 j).toInt64) hx hb dX11_foretoldOf_65 rfl ?_
        refine lv_lmul hx hb dX11_foretoldOf_66 ?_
        subst hQ
        exact W.lret (v := (fsum (onB f0 f1 f2 f3 j) g i5) * ((f4 j).toInt64)) hx hb hr (fun t ht hW => ⟨(fsum (onB f0 f1 f2 f3 j) g i5) * ((f4 j).toInt64), rfl, (by rw [hei5]), ht⟩) (fun q h => absurd h List.not_mem_nil) dX11_foretoldOf_67
      · skip
        have hlti5 : i5 < 48 := (Nat.lt_or_ge i5 48).elim id (fun q => absurd (show nI 48 ≤ nI i5 from nI_le q (by omega)) c1)
        refine lv_lload_n hx hb dX11_foretoldOf_12 rfl (lv_at hl 1 rfl) ?_
        refine lv_aload_n hx hb dX11_foretoldOf_13 rfl (lv_at hl 2 rfl) ?_
        refine lv_iload_n hx hb dX11_foretoldOf_14 rfl (lv_at hl 3 rfl) ?_
        refine lv_iload hx hb dX11_foretoldOf_15 (lv_at hl 0 rfl) ?_
        have hPc := hP.sub (ws' := [(qm, .inr (11, [w0, w1, w2, .ref rg, w4, w5, w6, w7, w8, w9, w10, w11, .ref ra, .ref rc, .ref rb, .ref rd, .ref re, w17, w18, w19, w20, w21, w22, w23, w24, w25, w26, w27, w28, w29, w30, w31, w32, w33, w34, w35, w36, w37, w38])), (ra, .inl (cI, 12, .inl f0)), (rb, .inl (cI, 12, .inl f1)), (rc, .inl (cI, 12, .inl f2)), (rd, .inl (cI, 12, .inl f3))]) [0, 1, 2, 3, 4] rfl
        have hDc := hD.sub (ws' := [(qm, .inr (11, [w0, w1, w2, .ref rg, w4, w5, w6, w7, w8, w9, w10, w11, .ref ra, .ref rc, .ref rb, .ref rd, .ref re, w17, w18, w19, w20, w21, w22, w23, w24, w25, w26, w27, w28, w29, w30, w31, w32, w33, w34, w35, w36, w37, w38])), (ra, .inl (cI, 12, .inl f0)), (rb, .inl (cI, 12, .inl f1)), (rc, .inl (cI, 12, .inl f2)), (rd, .inl (cI, 12, .inl f3))]) [0, 1, 2, 3, 4] (by decide) rfl
        have hKc := hK.sub (tys' := [(cI, .int)]) [0] rfl
        refine vp_callSi (va_Run.run (va_runV (As := [.int (nI j), .int (nI i5)]) (rest := [.long (fsum (onB f0 f1 f2 f3 j) g i5)]) ⟨hx, hb, hml, hown, hts⟩ (r_isOn l dC dI cI _ qm w0 w1 w2 (.ref rg) w4 w5 w6 w7 w8 w9 w10 w11 (.ref re) w17 w18 w19 w20 w21 w22 w23 w24 w25 w26 w27 w28 w29 w30 w31 w32 w33 w34 w35 w36 w37 w38 ra rb rc rd j i5 f0 f1 f2 f3 hj (by omega)) (cwV 2 hts gX11_foretoldOf_X11_isOn rfl rfl rfl (by decide +kernel) ⟨Nat.le_of_ble_eq_true rfl, Nat.le_of_ble_eq_true rfl⟩) (pw_preV (va_recv hKc hPc (ci := 11) (q0 := 0) rfl rfl) hPc hKc hDc hN) rfl rfl hl.1 rfl (lv_room (Nat.le_of_ble_eq_true rfl)) dX11_foretoldOf_17 ⟨Nat.le_of_ble_eq_true rfl, Nat.le_of_ble_eq_true rfl⟩)) (fun r3 hr3 => ?_)
        have hr3 : r3 = if onB f0 f1 f2 f3 j i5 = true then 1 else 0 := hr3
        refine lv_if_ne (tgt := 27) hx hb dX11_foretoldOf_20 (by decide) (fun c4 => ?_) (fun c4 => ?_)
        · skip
          have c4 := (fa_bool_prop hr3).2.mp c4
          refine lv_iload_n hx hb dX11_foretoldOf_27 rfl (lv_at hl 4 rfl) ?_
          refine lv_if_ne (tgt := 42) hx hb dX11_foretoldOf_28 (by decide) (fun c5 => ?_) (fun c5 => ?_)
          · skip
            refine lv_aload_n hx hb dX11_foretoldOf_42 rfl (lv_at hl 2 rfl) ?_
            refine va_get (D := (dC, dI)) (ci := 11) (v := .ref rg) (C := RX11) (T := TX11) (N := 39) hx hb hts hiX11 hown hK hP 0 rfl rfl 3 (by decide) (hts (.fieldLink RX11 13 "TributePitchesModel" "high" "[I") (by decide +kernel)) (fun _ h9 => h9) rfl dX11_foretoldOf_43 ?_
            refine lv_iload hx hb dX11_foretoldOf_46 (lv_at hl 0 rfl) ?_
            refine va_iald hx hb hK hP 6 0 rfl rfl (vp_in_nI (by omega) (by omega)) dX11_foretoldOf_48 ?_
            refine lv_topi (fun v6 ev6 => ?_)
            have ev6 : v6 = g i5 := by rw [ev6]; rw [nI_clamp (by omega)]
            subst ev6
            refine lv_i2l (v := (g i5).toInt64) hx hb dX11_foretoldOf_49 rfl ?_
            refine lv_ladd hx hb dX11_foretoldOf_50 ?_
            refine lv_topl (fun vs evs => ?_)
            have evs : vs = fsum (onB f0 f1 f2 f3 j) g (i5 + 1) := by rw [evs]; rw [fsum, if_pos c4]
            subst evs
            refine lv_lstore_n (lv' := [(3, .long (fsum (onB f0 f1 f2 f3 j) g (i5 + 1))), (5, .int (nI i5)), (0, .ref qm), (1, .int (nI j)), (2, .int 1)]) hx hb dX11_foretoldOf_51 rfl hl (by decide) rfl (fun ls hl => ?_)
            refine lv_iinc (v := nI (i5 + 1)) (lv' := [(5, .int (nI (i5 + 1))), (3, .long (fsum (onB f0 f1 f2 f3 j) g (i5 + 1))), (0, .ref qm), (1, .int (nI j)), (2, .int 1)]) hx hb dX11_foretoldOf_52 hl (k := 1) rfl (nI_1 i5) (by decide) rfl (fun ls hl => ?_)
            refine lv_goto (tgt := 5) hx hb dX11_foretoldOf_55 (by decide) ?_
            exact ihi5 (i5 + 1)  ls (by omega) (by omega)  (lv_sub hl [0, 1, 2, 3, 4] rfl)
          · exact absurd c5 (by decide)
        · skip
          have c4 := (fa_bool_prop hr3).1.mp c4
          refine lv_lconst (v := 0) hx hb dX11_foretoldOf_23 (by decide) ?_
          refine lv_goto (tgt := 50) hx hb dX11_foretoldOf_24 (by decide) ?_
          refine lv_ladd hx hb dX11_foretoldOf_50 ?_
          refine lv_topl (fun vs evs => ?_)
          have evs : vs = fsum (onB f0 f1 f2 f3 j) g (i5 + 1) := by rw [evs]; rw [fsum, if_neg c4]
          subst evs
          refine lv_lstore_n (lv' := [(3, .long (fsum (onB f0 f1 f2 f3 j) g (i5 + 1))), (5, .int (nI i5)), (0, .ref qm), (1, .int (nI j)), (2, .int 1)]) hx hb dX11_foretoldOf_51 rfl hl (by decide) rfl (fun ls hl => ?_)
          refine lv_iinc (v := nI (i5 + 1)) (lv' := [(5, .int (nI (i5 + 1))), (3, .long (fsum (onB f0 f1 f2 f3 j) g (i5 + 1))), (0, .ref qm), (1, .int (nI j)), (2, .int 1)]) hx hb dX11_foretoldOf_52 hl (k := 1) rfl (nI_1 i5) (by decide) rfl (fun ls hl => ?_)
          refine lv_goto (tgt := 5) hx hb dX11_foretoldOf_55 (by decide) ?_
          exact ihi5 (i5 + 1)  ls (by omega) (by omega)  (lv_sub hl [0, 1, 2, 3, 4] rfl)
  exact loop5 (48 + 1 - 0) 0  ls (by omega) (by omega)  (lv_sub hl [0, 1, 2, 3, 4] rfl)
set_option maxHeartbeats 4000000 in
set_option maxRecDepth 100000 in
theorem r_isSuspect (l : Launch) (dC : Nat → ClassId) (dI : Nat → Nat → Nat) (cI : ClassId) (sz : Nat) (qm : Nat) (w0 : Value) (w1 : Value) (w2 : Value) (w4 : Value) (w5 : Value) (w6 : Value) (w7 : Value) (w8 : Value) (w9 : Value) (w10 : Value) (w11 : Value) (w16 : Value) (w17 : Value) (w18 : Value) (w19 : Value) (w20 : Value) (w21 : Value) (w22 : Value) (w23 : Value) (w24 : Value) (w25 : Value) (w27 : Value) (w28 : Value) (w29 : Value) (w30 : Value) (w31 : Value) (w32 : Value) (w33 : Value) (w34 : Value) (w36 : Value) (w38 : Value) (ra : Nat) (rb : Nat) (rc : Nat) (rd : Nat) (rg : Nat) (rp : Nat) (rt : Nat) (rh : Nat) (jk : Nat) (jt : Nat) (j : Nat) (f0 : Nat → Int32) (f1 : Nat → Int32) (f2 : Nat → Int32) (f3 : Nat → Int32) (g : Nat → Int32) (fp : Nat → Int32) (ft : Nat → Int32) (fg : Nat → Int32) (hjk : jk < 80) (hjt : jt < 40) (hj : j < 12) (e1 : ft jk = nI jt) (e2 : fp jt = nI j) : Met l yX11_isSuspect wsX11_isSuspect ({ frames := 2, cells := 0, slots := 0, locals := 60 }) (pw (dC, dI) [(cI, .int)] [(qm, .inr (11, [w0, w1, w2, .ref rg, w4, w5, w6, w7, w8, w9, w10, w11, .ref ra, .ref rc, .ref rb, .ref rd, w16, w17, w18, w19, w20, w21, w22, w23, w24, w25, .ref rp, w27, w28, w29, w30, w31, w32, w33, w34, .ref rt, w36, .ref rh, w38])), (ra, .inl (cI, 12, .inl f0)), (rb, .inl (cI, 12, .inl f1)), (rc, .inl (cI, 12, .inl f2)), (rd, .inl (cI, 12, .inl f3)), (rg, .inl (cI, 48, .inl g)), (rp, .inl (cI, 40, .inl fp)), (rt, .inl (cI, 80, .inl ft)), (rh, .inl (cI, 80, .inl fg))] sz [.ref qm, .int (nI jk)]) (vp_Si (fun r => r = if smax (onB f0 f1 f2 f3 j) g 48 < fg jk then 1 else 0)) 0 0 (fun _ => False) := by
  refine pw_met (cc := cX11_isSuspect) (maxL := 5) (ret := (some .boolean)) (by decide) rfl (Nat.le_of_ble_eq_true rfl) ?_
  intro p e s m below meth c0 hx hb hr hml hown hlocks hnm hts hP hK hD hN hsz hA hS ls hl
  have hl : lv_has ls 5 [(0, .ref qm), (1, .int (nI jk))] := hl
  have hiX11 : ∀ w ∈ wsX110, w ∈ wsX11_isSuspect := by decide +kernel
  generalize hQ : MQ _ _ _ _ _ _ _ = Q
  refine lv_aload_n hx hb dX11_isSuspect_0 rfl (lv_at hl 0 rfl) ?_
  refine va_get (D := (dC, dI)) (ci := 11) (v := .ref rp) (C := RX11) (T := TX11) (N := 39) hx hb hts hiX11 hown hK hP 0 rfl rfl 26 (by decide) (hts (.fieldLink RX11 59 "TributePitchesModel" "pitchOf" "[I") (by decide +kernel)) (fun _ h9 => h9) rfl dX11_isSuspect_1 ?_
  refine lv_aload_n hx hb dX11_isSuspect_4 rfl (lv_at hl 0 rfl) ?_
  refine va_get (D := (dC, dI)) (ci := 11) (v := .ref rt) (C := RX11) (T := TX11) (N := 39) hx hb hts hiX11 hown hK hP 0 rfl rfl 35 (by decide) (hts (.fieldLink RX11 84 "TributePitchesModel" "parcelTake" "[I") (by decide +kernel)) (fun _ h9 => h9) rfl dX11_isSuspect_5 ?_
  refine lv_iload_n hx hb dX11_isSuspect_8 rfl (lv_at hl 1 rfl) ?_
  refine va_iald hx hb hK hP 7 0 rfl rfl (vp_in_nI (by omega) (by omega)) dX11_isSuspect_9 ?_
  refine lv_topi (fun v1 ev1 => ?_)
  have ev1 : v1 = nI jt := by rw [ev1]; rw [nI_clamp (by omega)]; exact e1
  subst ev1
  refine va_iald hx hb hK hP 6 0 rfl rfl (vp_in_nI (by omega) (by omega)) dX11_isSuspect_10 ?_
  refine lv_topi (fun v2 ev2 => ?_)
  have ev2 : v2 = nI j := by rw [ev2]; rw [nI_clamp (by omega)]; exact e2
  subst ev2
  refine lv_istore_n (lv' := [(2, .int (nI j)), (0, .ref qm), (1, .int (nI jk))]) hx hb dX11_isSuspect_11 rfl hl (by decide) rfl (fun ls hl => ?_)
  refine lv_iconst (v := 0) hx hb dX11_isSuspect_12 (by decide) ?_
  refine lv_istore_n (lv' := [(3, .int 0), (2, .int (nI j)), (0, .ref qm), (1, .int (nI jk))]) hx hb dX11_isSuspect_13 rfl hl (by decide) rfl (fun ls hl => ?_)
  refine lv_iconst (v := 0) hx hb dX11_isSuspect_14 (by decide) ?_
  refine lv_istore (lv' := [(4, .int 0), (3, .int 0), (2, .int (nI j)), (0, .ref qm), (1, .int (nI jk))]) hx hb dX11_isSuspect_15 hl (by decide) rfl (fun ls hl => ?_)
  have loop17 : ∀ (ni17 i17 : Nat) (ls : Array Slot), i17 ≤ 48 → 48 + 1 ≤ i17 + ni17 → lv_has ls 5 [(4, .int (nI i17)), (3, .int (smax (onB f0 f1 f2 f3 j) g i17)), (2, .int (nI j)), (0, .ref qm), (1, .int (nI jk))] → W p l e ({ frames := 2, cells := 0, slots := 0, locals := 60 } : Room) s m ([.ref qm, .int (nI jk)] : List Value).toArray below meth c0 s.heap [] 0 0 Q (F0 m 17 ls []) := by
    intro ni17
    induction ni17 with
    | zero =>
      intro i17  ls h1 h2
      exact absurd h2 (by omega)
    | succ ni17 ihi17 =>
      intro i17  ls hlei17 hni17  hl
      refine lv_iload hx hb dX11_isSuspect_17 (lv_at hl 0 rfl) ?_
      refine lv_bipush (v := 48) hx hb dX11_isSuspect_19 (by decide) ?_
      refine lv_icmp_ge (tgt := 63) hx hb dX11_isSuspect_21 (by decide) (fun c3 => ?_) (fun c3 => ?_)
      · skip
        have hei17 : i17 = 48 := (Nat.lt_or_ge i17 48).elim (fun q => absurd c3 (show ¬ nI 48 ≤ nI i17 from nI_ge q (by omega))) (fun q => by omega)
        refine lv_aload_n hx hb dX11_isSuspect_63 rfl (lv_at hl 3 rfl) ?_
        refine va_get (D := (dC, dI)) (ci := 11) (v := .ref rh) (C := RX11) (T := TX11) (N := 39) hx hb hts hiX11 hown hK hP 0 rfl rfl 37 (by decide) (hts (.fieldLink RX11 90 "TributePitchesModel" "parcelGood" "[I") (by decide +kernel)) (fun _ h9 => h9) rfl dX11_isSuspect_64 ?_
        refine lv_iload_n hx hb dX11_isSuspect_67 rfl (lv_at hl 4 rfl) ?_
        refine va_iald hx hb hK hP 8 0 rfl rfl (vp_in_nI (by omega) (by omega)) dX11_isSuspect_68 ?_
        refine lv_topi (fun v4 ev4 => ?_)
        have ev4 : v4 = fg jk := by rw [ev4]; rw [nI_clamp (by omega)]
        subst ev4
        refine lv_iload_n hx hb dX11_isSuspect_69 rfl (lv_at hl 1 rfl) ?_
        refine lv_icmp_le (tgt := 77) hx hb dX11_isSuspect_70 (by decide) (fun c5 => ?_) (fun c5 => ?_)
        · skip
          refine lv_iconst (v := 0) hx hb dX11_isSuspect_77 (by decide) ?_
          subst hQ
          exact W.zret (v := 0) hx hb hr rfl (fun t ht hW => ⟨0, rfl, (by rw [if_neg (Int32.not_lt.mpr (hei17 ▸ c5))]), ht⟩) (fun q h => absurd h List.not_mem_nil) dX11_isSuspect_78
        · skip
          refine lv_iconst (v := 1) hx hb dX11_isSuspect_73 (by decide) ?_
          refine lv_goto (tgt := 78) hx hb dX11_isSuspect_74 (by decide) ?_
          subst hQ
          exact W.zret (v := 1) hx hb hr rfl (fun t ht hW => ⟨1, rfl, (by rw [if_pos (Int32.not_le.mp (hei17 ▸ c5))]), ht⟩) (fun q h => absurd h List.not_mem_nil) dX11_isSuspect_78
      · skip
        have hlti17 : i17 < 48 := (Nat.lt_or_ge i17 48).elim id (fun q => absurd (show nI 48 ≤ nI i17 from nI_le q (by omega)) c3)
        refine lv_aload_n hx hb dX11_isSuspect_24 rfl (lv_at hl 3 rfl) ?_
        refine lv_iload_n hx hb dX11_isSuspect_25 rfl (lv_at hl 2 rfl) ?_
        refine lv_iload hx hb dX11_isSuspect_26 (lv_at hl 0 rfl) ?_
        have hPc := hP.sub (ws' := [(qm, .inr (11, [w0, w1, w2, .ref rg, w4, w5, w6, w7, w8, w9, w10, w11, .ref ra, .ref rc, .ref rb, .ref rd, w16, w17, w18, w19, w20, w21, w22, w23, w24, w25, .ref rp, w27, w28, w29, w30, w31, w32, w33, w34, .ref rt, w36, .ref rh, w38])), (ra, .inl (cI, 12, .inl f0)), (rb, .inl (cI, 12, .inl f1)), (rc, .inl (cI, 12, .inl f2)), (rd, .inl (cI, 12, .inl f3))]) [0, 1, 2, 3, 4] rfl
        have hDc := hD.sub (ws' := [(qm, .inr (11, [w0, w1, w2, .ref rg, w4, w5, w6, w7, w8, w9, w10, w11, .ref ra, .ref rc, .ref rb, .ref rd, w16, w17, w18, w19, w20, w21, w22, w23, w24, w25, .ref rp, w27, w28, w29, w30, w31, w32, w33, w34, .ref rt, w36, .ref rh, w38])), (ra, .inl (cI, 12, .inl f0)), (rb, .inl (cI, 12, .inl f1)), (rc, .inl (cI, 12, .inl f2)), (rd, .inl (cI, 12, .inl f3))]) [0, 1, 2, 3, 4] (by decide) rfl
        have hKc := hK.sub (tys' := [(cI, .int)]) [0] rfl
        refine vp_callSi (va_Run.run (va_runV (As := [.int (nI j), .int (nI i17)]) (rest := []) ⟨hx, hb, hml, hown, hts⟩ (r_isOn l dC dI cI _ qm w0 w1 w2 (.ref rg) w4 w5 w6 w7 w8 w9 w10 w11 w16 w17 w18 w19 w20 w21 w22 w23 w24 w25 (.ref rp) w27 w28 w29 w30 w31 w32 w33 w34 (.ref rt) w36 (.ref rh) w38 ra rb rc rd j i17 f0 f1 f2 f3 hj (by omega)) (cwV 2 hts gX11_isSuspect_X11_isOn rfl rfl rfl (by decide +kernel) ⟨Nat.le_of_ble_eq_true rfl, Nat.le_of_ble_eq_true rfl⟩) (pw_preV (va_recv hKc hPc (ci := 11) (q0 := 0) rfl rfl) hPc hKc hDc hN) rfl rfl hl.1 rfl (lv_room (Nat.le_of_ble_eq_true rfl)) dX11_isSuspect_28 ⟨Nat.le_of_ble_eq_true rfl, Nat.le_of_ble_eq_true rfl⟩)) (fun r6 hr6 => ?_)
        have hr6 : r6 = if onB f0 f1 f2 f3 j i17 = true then 1 else 0 := hr6
        refine lv_if_eq (tgt := 55) hx hb dX11_isSuspect_31 (by decide) (fun c7 => ?_) (fun c7 => ?_)
        · skip
          have c7 := (fa_bool_prop hr6).1.mp c7
          refine lv_iload_n hx hb dX11_isSuspect_55 rfl (lv_at hl 1 rfl) ?_
          refine lv_istore_n (lv' := [(3, .int (smax (onB f0 f1 f2 f3 j) g i17)), (4, .int (nI i17)), (2, .int (nI j)), (0, .ref qm), (1, .int (nI jk))]) hx hb dX11_isSuspect_56 rfl hl (by decide) rfl (fun ls hl => ?_)
          refine lv_iinc (v := nI (i17 + 1)) (lv' := [(4, .int (nI (i17 + 1))), (3, .int (smax (onB f0 f1 f2 f3 j) g i17)), (2, .int (nI j)), (0, .ref qm), (1, .int (nI jk))]) hx hb dX11_isSuspect_57 hl (k := 1) rfl (nI_1 i17) (by decide) rfl (fun ls hl => ?_)
          refine lv_goto (tgt := 17) hx hb dX11_isSuspect_60 (by decide) ?_
          have e9 : smax (onB f0 f1 f2 f3 j) g (i17 + 1) = smax (onB f0 f1 f2 f3 j) g i17 := by rw [smax]; simp [c7]
          rw [← e9] at hl
          have hl : lv_has ls 5 [(4, .int (nI (i17 + 1))), (3, .int (smax (onB f0 f1 f2 f3 j) g (i17 + 1))), (2, .int (nI j)), (0, .ref qm), (1, .int (nI jk))] := hl
          exact ihi17 (i17 + 1)  ls (by omega) (by omega)  (lv_sub hl [0, 1, 2, 3, 4] rfl)
        · skip
          have c7 := (fa_bool_prop hr6).2.mp c7
          refine lv_aload_n hx hb dX11_isSuspect_34 rfl (lv_at hl 3 rfl) ?_
          refine va_get (D := (dC, dI)) (ci := 11) (v := .ref rg) (C := RX11) (T := TX11) (N := 39) hx hb hts hiX11 hown hK hP 0 rfl rfl 3 (by decide) (hts (.fieldLink RX11 13 "TributePitchesModel" "high" "[I") (by decide +kernel)) (fun _ h9 => h9) rfl dX11_isSuspect_35 ?_
          refine lv_iload hx hb dX11_isSuspect_38 (lv_at hl 0 rfl) ?_
          refine va_iald hx hb hK hP 5 0 rfl rfl (vp_in_nI (by omega) (by omega)) dX11_isSuspect_40 ?_
          refine lv_topi (fun v8 ev8 => ?_)
          have ev8 : v8 = g i17 := by rw [ev8]; rw [nI_clamp (by omega)]
          subst ev8
          refine lv_iload_n hx hb dX11_isSuspect_41 rfl (lv_at hl 1 rfl) ?_
          refine lv_icmp_le (tgt := 55) hx hb dX11_isSuspect_42 (by decide) (fun c9 => ?_) (fun c9 => ?_)
          · skip
            refine lv_iload_n hx hb dX11_isSuspect_55 rfl (lv_at hl 1 rfl) ?_
            refine lv_istore_n (lv' := [(3, .int (smax (onB f0 f1 f2 f3 j) g i17)), (4, .int (nI i17)), (2, .int (nI j)), (0, .ref qm), (1, .int (nI jk))]) hx hb dX11_isSuspect_56 rfl hl (by decide) rfl (fun ls hl => ?_)
            refine lv_iinc (v := nI (i17 + 1)) (lv' := [(4, .int (nI (i17 + 1))), (3, .int (smax (onB f0 f1 f2 f3 j) g i17)), (2, .int (nI j)), (0, .ref qm), (1, .int (nI jk))]) hx hb dX11_isSuspect_57 hl (k := 1) rfl (nI_1 i17) (by decide) rfl (fun ls hl => ?_)
            refine lv_goto (tgt := 17) hx hb dX11_isSuspect_60 (by decide) ?_
            have e9 : smax (onB f0 f1 f2 f3 j) g (i17 + 1) = smax (onB f0 f1 f2 f3 j) g i17 := by rw [smax]; simp [c7, Int32.not_lt.mpr c9]
            rw [← e9] at hl
            have hl : lv_has ls 5 [(4, .int (nI (i17 + 1))), (3, .int (smax (onB f0 f1 f2 f3 j) g (i17 + 1))), (2, .int (nI j)), (0, .ref qm), (1, .int (nI jk))] := hl
            exact ihi17 (i17 + 1)  ls (by omega) (by omega)  (lv_sub hl [0, 1, 2, 3, 4] rfl)
          · skip
            refine lv_aload_n hx hb dX11_isSuspect_45 rfl (lv_at hl 3 rfl) ?_
            refine va_get (D := (dC, dI)) (ci := 11) (v := .ref rg) (C := RX11) (T := TX11) (N := 39) hx hb hts hiX11 hown hK hP 0 rfl rfl 3 (by decide) (hts (.fieldLink RX11 13 "TributePitchesModel" "high" "[I") (by decide +kernel)) (fun _ h9 => h9) rfl dX11_isSuspect_46 ?_
            refine lv_iload hx hb dX11_isSuspect_49 (lv_at hl 0 rfl) ?_
            refine va_iald hx hb hK hP 5 0 rfl rfl (vp_in_nI (by omega) (by omega)) dX11_isSuspect_51 ?_
            refine lv_topi (fun v10 ev10 => ?_)
            have ev10 : v10 = g i17 := by rw [ev10]; rw [nI_clamp (by omega)]
            subst ev10
            refine lv_goto (tgt := 56) hx hb dX11_isSuspect_52 (by decide) ?_
            refine lv_istore_n (lv' := [(3, .int (g i17)), (4, .int (nI i17)), (2, .int (nI j)), (0, .ref qm), (1, .int (nI jk))]) hx hb dX11_isSuspect_56 rfl hl (by decide) rfl (fun ls hl => ?_)
            refine lv_iinc (v := nI (i17 + 1)) (lv' := [(4, .int (nI (i17 + 1))), (3, .int (g i17)), (2, .int (nI j)), (0, .ref qm), (1, .int (nI jk))]) hx hb dX11_isSuspect_57 hl (k := 1) rfl (nI_1 i17) (by decide) rfl (fun ls hl => ?_)
            refine lv_goto (tgt := 17) hx hb dX11_isSuspect_60 (by decide) ?_
            have e9 : smax (onB f0 f1 f2 f3 j) g (i17 + 1) = g i17 := by rw [smax]; simp [c7, Int32.not_le.mp c9]
            rw [← e9] at hl
            have hl : lv_has ls 5 [(4, .int (nI (i17 + 1))), (3, .int (smax (onB f0 f1 f2 f3 j) g (i17 + 1))), (2, .int (nI j)), (0, .ref qm), (1, .int (nI jk))] := hl
            exact ihi17 (i17 + 1)  ls (by omega) (by omega)  (lv_sub hl [0, 1, 2, 3, 4] rfl)
  exact loop17 (48 + 1 - 0) 0  ls (by omega) (by omega)  (lv_sub hl [0, 1, 2, 3, 4] rfl)
