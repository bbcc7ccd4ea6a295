theorem w01 {w : Int32} (h0 : ¬ w = 0) (h1 : ¬ w = 1) : ¬ (0 ≤ w ∧ w ≤ 1) := fun h => by
  obtain ⟨a, ha, rfl⟩ := nI_of2 (x := w) (M := 1) (n := 1) (by decide) (Int32.not_lt.mpr h.1) h.2
  rcases (show a = 0 ∨ a = 1 by omega) with rfl | rfl
  · exact h0 rfl
  · exact h1 rfl
theorem fnd_no {lo hi A : Int32} (h : ¬ (lo ≤ hi ∧ hi ≤ 1000)) : (if 0 ≤ hi ∧ hi ≤ 1000 then (if lo ≤ hi then A else -2) else -2) = -2 := by
  by_cases h1 : 0 ≤ hi ∧ hi ≤ 1000
  · rw [if_pos h1, if_neg (fun q => h ⟨q, h1.2⟩)]
  · rw [if_neg h1]
theorem sh_in {k : Int32} {i : Nat} (h : 0 ≤ k ∧ k ≤ 3) (hi : i < 48) : vp_in (48 * k + nI i) 192 := by
  obtain ⟨a, ha, rfl⟩ := nI_of2 (x := k) (M := 3) (n := 3) (by decide) (Int32.not_lt.mpr h.1) h.2
  have e : (48 : Int32) * nI a + nI i = nI (48 * a + i) := by
    rw [show (48 : Int32) * nI a = nI (48 * a) from pk_mul 48 a]
    exact nI_add _ _
  rw [e]
  exact vp_in_nI (by omega) (by omega)
def sp_gang (k : Int32) : Int32 := if 0 ≤ k ∧ k ≤ 2 then 0 else -2
set_option maxHeartbeats 4000000 in
set_option maxRecDepth 100000 in
theorem c_X11_noPitch (l : Launch) (dC : Nat → ClassId) (dI : Nat → Nat → Nat)  (sz : Nat) (qm : Nat) (w0 : Value) (w1 : Value) (w2 : Value) (w3 : Value) (w4 : Value) (w5 : Value) (w6 : Value) (w7 : Value) (w8 : Value) (w9 : Value) (w10 : Value) (w12 : Value) (w13 : Value) (w14 : Value) (w15 : Value) (w16 : Value) (w17 : Value) (w18 : Value) (w19 : Value) (w20 : Value) (w21 : Value) (w22 : Value) (w23 : Value) (w24 : Value) (w25 : Value) (w26 : Value) (w27 : Value) (w28 : Value) (w29 : Value) (w30 : Value) (w31 : Value) (w32 : Value) (w33 : Value) (w34 : Value) (w35 : Value) (w36 : Value) (w37 : Value) (w38 : Value) (k : Int32)  : Met l yX11_noPitch wsX11_noPitch ({ frames := 1, cells := 0, slots := 0, locals := 30 }) (pw (dC, dI) [] [(qm, .inr (11, [w0, w1, w2, w3, w4, w5, w6, w7, w8, w9, w10, .int 0, w12, w13, w14, w15, w16, w17, w18, w19, w20, w21, w22, w23, w24, w25, w26, w27, w28, w29, w30, w31, w32, w33, w34, w35, w36, w37, w38]))] sz [.ref qm, .int k]) (vp_Si (fun r => r = 1)) 0 0 (fun _ => False) := by
  refine pw_met (cc := cX11_noPitch) (maxL := 2) (ret := (some .boolean)) (by decide) rfl (Nat.le_of_ble_eq_true rfl) ?_
  intro p e s m below meth c0 hx hb hr hml hown hlocks hnm hts hP hK hD hN hsz hA hS ls hl
  have hl : lv_has ls 2 [(0, .ref qm), (1, .int k)] := hl
  have hiX11 : ∀ w ∈ wsX110, w ∈ wsX11_noPitch := by decide +kernel
  refine lv_iload_n hx hb dX11_noPitch_0 rfl (lv_at hl 1 rfl) ?_
  refine lv_i2l (v := k.toInt64) hx hb dX11_noPitch_1 rfl ?_
  refine lv_lconst (v := 0) hx hb dX11_noPitch_2 (by decide) ?_
  refine lv_aload_n hx hb dX11_noPitch_3 rfl (lv_at hl 0 rfl) ?_
  refine va_get (D := (dC, dI)) (ci := 11) (v := .int 0) (C := RX11) (T := TX11) (N := 39) hx hb hts hiX11 hown hK hP 0 rfl rfl 11 (by decide) (hts (.fieldLink RX11 170 "TributePitchesModel" "pitches" "I") (by decide +kernel)) (fun _ h9 => h9) rfl dX11_noPitch_4 ?_
  refine lv_i2l (v := 0) hx hb dX11_noPitch_7 (by decide) ?_
  refine lv_lconst (v := 1) hx hb dX11_noPitch_8 (by decide) ?_
  refine lv_lsub hx hb dX11_noPitch_9 ?_
  refine lv_topl (fun v1 ev1 => ?_)
  have ev1 : v1 = (-1) := by rw [ev1]; decide
  subst ev1
  refine vp_callSi (va_Run.run (va_runS (As := [.long k.toInt64, .long 0, .long (-1)]) (rest := []) ⟨hx, hb, hml, hown, hts⟩ (c_X11_in l k.toInt64 0 (-1) ) (va_cwS 3 hts gX11_noPitch_X11_in rfl rfl rfl (by decide +kernel) ⟨Nat.le_of_ble_eq_true rfl, Nat.le_of_ble_eq_true rfl⟩) (p0_preS hN) rfl rfl hl.1 rfl (lv_room (Nat.le_of_ble_eq_true rfl)) dX11_noPitch_10 ⟨Nat.le_of_ble_eq_true rfl, Nat.le_of_ble_eq_true rfl⟩)) (fun r2 hr2 => ?_)
  have hr2 : r2 = if 0 ≤ k.toInt64 ∧ k.toInt64 ≤ (-1) then 1 else 0 := hr2
  have hr2 := hr2.trans (in_w _ 0 (-1) (by decide) (by decide))
  refine lv_if_ne (tgt := 20) hx hb dX11_noPitch_13 (by decide) (fun c3 => ?_) (fun c3 => ?_)
  · exact absurd c3 (not_not_intro (hr2.trans (if_neg (no_neg _))))
  · skip
    have c3 := (fa_bool_prop hr2).1.mp c3
    refine lv_iconst (v := 1) hx hb dX11_noPitch_16 (by decide) ?_
    refine lv_goto (tgt := 21) hx hb dX11_noPitch_17 (by decide) ?_
    exact W.zret (v := 1) hx hb hr rfl (fun t ht hW => ⟨1, rfl, rfl, ht⟩) (fun q h => absurd h List.not_mem_nil) dX11_noPitch_21
set_option maxHeartbeats 4000000 in
set_option maxRecDepth 100000 in
theorem c_X11_noGang (l : Launch) (dC : Nat → ClassId) (dI : Nat → Nat → Nat)  (sz : Nat) (qm : Nat) (w0 : Value) (w1 : Value) (w2 : Value) (w3 : Value) (w4 : Value) (w5 : Value) (w6 : Value) (w7 : Value) (w8 : Value) (w9 : Value) (w10 : Value) (w11 : Value) (w12 : Value) (w13 : Value) (w14 : Value) (w15 : Value) (w16 : Value) (w18 : Value) (w19 : Value) (w20 : Value) (w21 : Value) (w22 : Value) (w23 : Value) (w24 : Value) (w25 : Value) (w26 : Value) (w27 : Value) (w28 : Value) (w29 : Value) (w30 : Value) (w31 : Value) (w32 : Value) (w33 : Value) (w34 : Value) (w35 : Value) (w36 : Value) (w37 : Value) (w38 : Value) (k : Int32)  : Met l yX11_noGang wsX11_noGang ({ frames := 1, cells := 0, slots := 0, locals := 30 }) (pw (dC, dI) [] [(qm, .inr (11, [w0, w1, w2, w3, w4, w5, w6, w7, w8, w9, w10, w11, w12, w13, w14, w15, w16, .int 0, w18, w19, w20, w21, w22, w23, w24, w25, w26, w27, w28, w29, w30, w31, w32, w33, w34, w35, w36, w37, w38]))] sz [.ref qm, .int k]) (vp_Si (fun r => r = 1)) 0 0 (fun _ => False) := by
  refine pw_met (cc := cX11_noGang) (maxL := 2) (ret := (some .boolean)) (by decide) rfl (Nat.le_of_ble_eq_true rfl) ?_
  intro p e s m below meth c0 hx hb hr hml hown hlocks hnm hts hP hK hD hN hsz hA hS ls hl
  have hl : lv_has ls 2 [(0, .ref qm), (1, .int k)] := hl
  have hiX11 : ∀ w ∈ wsX110, w ∈ wsX11_noGang := by decide +kernel
  refine lv_iload_n hx hb dX11_noGang_0 rfl (lv_at hl 1 rfl) ?_
  refine lv_i2l (v := k.toInt64) hx hb dX11_noGang_1 rfl ?_
  refine lv_lconst (v := 0) hx hb dX11_noGang_2 (by decide) ?_
  refine lv_aload_n hx hb dX11_noGang_3 rfl (lv_at hl 0 rfl) ?_
  refine va_get (D := (dC, dI)) (ci := 11) (v := .int 0) (C := RX11) (T := TX11) (N := 39) hx hb hts hiX11 hown hK hP 0 rfl rfl 17 (by decide) (hts (.fieldLink RX11 185 "TributePitchesModel" "gangs" "I") (by decide +kernel)) (fun _ h9 => h9) rfl dX11_noGang_4 ?_
  refine lv_i2l (v := 0) hx hb dX11_noGang_7 (by decide) ?_
  refine lv_lconst (v := 1) hx hb dX11_noGang_8 (by decide) ?_
  refine lv_lsub hx hb dX11_noGang_9 ?_
  refine lv_topl (fun v1 ev1 => ?_)
  have ev1 : v1 = (-1) := by rw [ev1]; decide
  subst ev1
  refine vp_callSi (va_Run.run (va_runS (As := [.long k.toInt64, .long 0, .long (-1)]) (rest := []) ⟨hx, hb, hml, hown, hts⟩ (c_X11_in l k.toInt64 0 (-1) ) (va_cwS 3 hts gX11_noGang_X11_in rfl rfl rfl (by decide +kernel) ⟨Nat.le_of_ble_eq_true rfl, Nat.le_of_ble_eq_true rfl⟩) (p0_preS hN) rfl rfl hl.1 rfl (lv_room (Nat.le_of_ble_eq_true rfl)) dX11_noGang_10 ⟨Nat.le_of_ble_eq_true rfl, Nat.le_of_ble_eq_true rfl⟩)) (fun r2 hr2 => ?_)
  have hr2 : r2 = if 0 ≤ k.toInt64 ∧ k.toInt64 ≤ (-1) then 1 else 0 := hr2
  have hr2 := hr2.trans (in_w _ 0 (-1) (by decide) (by decide))
  refine lv_if_ne (tgt := 20) hx hb dX11_noGang_13 (by decide) (fun c3 => ?_) (fun c3 => ?_)
  · exact absurd c3 (not_not_intro (hr2.trans (if_neg (no_neg _))))
  · skip
    have c3 := (fa_bool_prop hr2).1.mp c3
    refine lv_iconst (v := 1) hx hb dX11_noGang_16 (by decide) ?_
    refine lv_goto (tgt := 21) hx hb dX11_noGang_17 (by decide) ?_
    exact W.zret (v := 1) hx hb hr rfl (fun t ht hW => ⟨1, rfl, rfl, ht⟩) (fun q h => absurd h List.not_mem_nil) dX11_noGang_21
set_option maxHeartbeats 4000000 in
set_option maxRecDepth 100000 in
theorem c_X11_noTake (l : Launch) (dC : Nat → ClassId) (dI : Nat → Nat → Nat)  (sz : Nat) (qm : Nat) (w0 : Value) (w1 : Value) (w2 : Value) (w3 : Value) (w4 : Value) (w5 : Value) (w6 : Value) (w7 : Value) (w8 : Value) (w9 : Value) (w10 : Value) (w11 : Value) (w12 : Value) (w13 : Value) (w14 : Value) (w15 : Value) (w16 : Value) (w17 : Value) (w18 : Value) (w19 : Value) (w20 : Value) (w21 : Value) (w22 : Value) (w23 : Value) (w25 : Value) (w26 : Value) (w27 : Value) (w28 : Value) (w29 : Value) (w30 : Value) (w31 : Value) (w32 : Value) (w33 : Value) (w34 : Value) (w35 : Value) (w36 : Value) (w37 : Value) (w38 : Value) (k : Int32)  : Met l yX11_noTake wsX11_noTake ({ frames := 1, cells := 0, slots := 0, locals := 30 }) (pw (dC, dI) [] [(qm, .inr (11, [w0, w1, w2, w3, w4, w5, w6, w7, w8, w9, w10, w11, w12, w13, w14, w15, w16, w17, w18, w19, w20, w21, w22, w23, .int 0, w25, w26, w27, w28, w29, w30, w31, w32, w33, w34, w35, w36, w37, w38]))] sz [.ref qm, .int k]) (vp_Si (fun r => r = 1)) 0 0 (fun _ => False) := by
  refine pw_met (cc := cX11_noTake) (maxL := 2) (ret := (some .boolean)) (by decide) rfl (Nat.le_of_ble_eq_true rfl) ?_
  intro p e s m below meth c0 hx hb hr hml hown hlocks hnm hts hP hK hD hN hsz hA hS ls hl
  have hl : lv_has ls 2 [(0, .ref qm), (1, .int k)] := hl
  have hiX11 : ∀ w ∈ wsX110, w ∈ wsX11_noTake := by decide +kernel
  refine lv_iload_n hx hb dX11_noTake_0 rfl (lv_at hl 1 rfl) ?_
  refine lv_i2l (v := k.toInt64) hx hb dX11_noTake_1 rfl ?_
  refine lv_lconst (v := 0) hx hb dX11_noTake_2 (by decide) ?_
  refine lv_aload_n hx hb dX11_noTake_3 rfl (lv_at hl 0 rfl) ?_
  refine va_get (D := (dC, dI)) (ci := 11) (v := .int 0) (C := RX11) (T := TX11) (N := 39) hx hb hts hiX11 hown hK hP 0 rfl rfl 24 (by decide) (hts (.fieldLink RX11 188 "TributePitchesModel" "takes" "I") (by decide +kernel)) (fun _ h9 => h9) rfl dX11_noTake_4 ?_
  refine lv_i2l (v := 0) hx hb dX11_noTake_7 (by decide) ?_
  refine lv_lconst (v := 1) hx hb dX11_noTake_8 (by decide) ?_
  refine lv_lsub hx hb dX11_noTake_9 ?_
  refine lv_topl (fun v1 ev1 => ?_)
  have ev1 : v1 = (-1) := by rw [ev1]; decide
  subst ev1
  refine vp_callSi (va_Run.run (va_runS (As := [.long k.toInt64, .long 0, .long (-1)]) (rest := []) ⟨hx, hb, hml, hown, hts⟩ (c_X11_in l k.toInt64 0 (-1) ) (va_cwS 3 hts gX11_noTake_X11_in rfl rfl rfl (by decide +kernel) ⟨Nat.le_of_ble_eq_true rfl, Nat.le_of_ble_eq_true rfl⟩) (p0_preS hN) rfl rfl hl.1 rfl (lv_room (Nat.le_of_ble_eq_true rfl)) dX11_noTake_10 ⟨Nat.le_of_ble_eq_true rfl, Nat.le_of_ble_eq_true rfl⟩)) (fun r2 hr2 => ?_)
  have hr2 : r2 = if 0 ≤ k.toInt64 ∧ k.toInt64 ≤ (-1) then 1 else 0 := hr2
  have hr2 := hr2.trans (in_w _ 0 (-1) (by decide) (by decide))
  refine lv_if_ne (tgt := 20) hx hb dX11_noTake_13 (by decide) (fun c3 => ?_) (fun c3 => ?_)
  · exact absurd c3 (not_not_intro (hr2.trans (if_neg (no_neg _))))
  · skip
    have c3 := (fa_bool_prop hr2).1.mp c3
    refine lv_iconst (v := 1) hx hb dX11_noTake_16 (by decide) ?_
    refine lv_goto (tgt := 21) hx hb dX11_noTake_17 (by decide) ?_
    exact W.zret (v := 1) hx hb hr rfl (fun t ht hW => ⟨1, rfl, rfl, ht⟩) (fun q h => absurd h List.not_mem_nil) dX11_noTake_21
set_option maxHeartbeats 4000000 in
set_option maxRecDepth 100000 in
theorem c_X11_refused (l : Launch) (dC : Nat → ClassId) (dI : Nat → Nat → Nat)  (sz : Nat) (qm : Nat) (w0 : Value) (w1 : Value) (w2 : Value) (w3 : Value) (w4 : Value) (w5 : Value) (w6 : Value) (w7 : Value) (w8 : Value) (w9 : Value) (w10 : Value) (w11 : Value) (w12 : Value) (w13 : Value) (w14 : Value) (w15 : Value) (w16 : Value) (w17 : Value) (w18 : Value) (w19 : Value) (w20 : Value) (w21 : Value) (w22 : Value) (w23 : Value) (w24 : Value) (w25 : Value) (w26 : Value) (w27 : Value) (w28 : Value) (w29 : Value) (w30 : Value) (w31 : Value) (w32 : Value) (w33 : Value) (w34 : Value) (w35 : Value) (w36 : Value) (w37 : Value) (w38 : Value) (k : Int32)  : Met l yX11_refused wsX11_refused ({ frames := 0, cells := 0, slots := 0, locals := 0 }) (pw (dC, dI) [] [(qm, .inr (11, [w0, w1, w2, w3, w4, w5, w6, w7, w8, w9, w10, w11, w12, w13, w14, w15, w16, w17, w18, w19, w20, w21, w22, w23, w24, w25, w26, w27, w28, w29, w30, w31, w32, w33, w34, w35, w36, w37, w38]))] sz [.ref qm, .int k]) (va_Qi (fun r (_ : Unit) => r = k) (fun _ t => bw (dC, dI) [] (va_A [(qm, .inr (11, [w0, w1, w2, w3, w4, w5, w6, w7, w8, w9, w10, w11, w12, w13, w14, w15, w16, w17, w18, w19, w20, w21, w22, w23, w24, w25, w26, w27, w28, w29, w30, w31, w32, w33, w34, w35, w36, w37, w38]))] sz) [(qm, .inr (11, [.int 0, w1, w2, w3, w4, w5, w6, w7, w8, w9, w10, w11, w12, w13, w14, w15, w16, w17, w18, w19, w20, w21, w22, w23, w24, w25, w26, w27, w28, w29, w30, w31, w32, w33, w34, w35, w36, w37, w38]))] t) (va_A [(qm, .inr (11, [w0, w1, w2, w3, w4, w5, w6, w7, w8, w9, w10, w11, w12, w13, w14, w15, w16, w17, w18, w19, w20, w21, w22, w23, w24, w25, w26, w27, w28, w29, w30, w31, w32, w33, w34, w35, w36, w37, w38]))] sz)) 0 0 (va_A [(qm, .inr (11, [w0, w1, w2, w3, w4, w5, w6, w7, w8, w9, w10, w11, w12, w13, w14, w15, w16, w17, w18, w19, w20, w21, w22, w23, w24, w25, w26, w27, w28, w29, w30, w31, w32, w33, w34, w35, w36, w37, w38]))] sz) := by
  refine pw_met (cc := cX11_refused) (maxL := 2) (ret := (some .int)) (by decide) rfl (Nat.le_of_ble_eq_true rfl) ?_
  intro p e s m below meth c0 hx hb hr hml hown hlocks hnm hts hP hK hD hN hsz hA hS ls hl
  subst hsz
  have hl : lv_has ls 2 [(0, .ref qm), (1, .int k)] := hl
  have hiX11 : ∀ w ∈ wsX110, w ∈ wsX11_refused := by decide +kernel
  refine lv_aload_n hx hb dX11_refused_0 rfl (lv_at hl 0 rfl) ?_
  refine lv_iconst (v := 0) hx hb dX11_refused_1 (by decide) ?_
  refine va_put (D := (dC, dI)) (ci := 11) (v := .int 0) (ty := .int) (C := RX11) (T := TX11) (N := 39) hx hb hts hiX11 tyX11 tyX11_ok nmX11 hown hK hP hD hS 0 rfl rfl 0 (by decide) (hts (.fieldLink RX11 102 "TributePitchesModel" "fault" "I") (by decide +kernel)) (fun _ h9 => h9) rfl (by decide +kernel) rfl rfl (Nat.le_of_ble_eq_true rfl) dX11_refused_2 (fun H locs hP hD hS => ?_)
  have hP : va_P (dC, dI) vwCl [(qm, .inr (11, [.int 0, w1, w2, w3, w4, w5, w6, w7, w8, w9, w10, w11, w12, w13, w14, w15, w16, w17, w18, w19, w20, w21, w22, w23, w24, w25, w26, w27, w28, w29, w30, w31, w32, w33, w34, w35, w36, w37, w38]))] H := hP
  have hD : va_D _ [(qm, .inr (11, [.int 0, w1, w2, w3, w4, w5, w6, w7, w8, w9, w10, w11, w12, w13, w14, w15, w16, w17, w18, w19, w20, w21, w22, w23, w24, w25, w26, w27, w28, w29, w30, w31, w32, w33, w34, w35, w36, w37, w38]))] := hD
  refine lv_iload_n hx hb dX11_refused_5 rfl (lv_at hl 1 rfl) ?_
  have hP9 := hP.sub (ws' := [(qm, .inr (11, [.int 0, w1, w2, w3, w4, w5, w6, w7, w8, w9, w10, w11, w12, w13, w14, w15, w16, w17, w18, w19, w20, w21, w22, w23, w24, w25, w26, w27, w28, w29, w30, w31, w32, w33, w34, w35, w36, w37, w38]))]) [0] rfl
  have hD9 := hD.sub (ws' := [(qm, .inr (11, [.int 0, w1, w2, w3, w4, w5, w6, w7, w8, w9, w10, w11, w12, w13, w14, w15, w16, w17, w18, w19, w20, w21, w22, w23, w24, w25, w26, w27, w28, w29, w30, w31, w32, w33, w34, w35, w36, w37, w38]))]) [0] (by decide) rfl
  have hK9 := hK.sub (tys' := []) [] rfl
  exact W.iret (v := k) hx hb hr (fun t ht hW => ⟨⟨k, (), rfl, rfl, ⟨by rw [ht]; exact hP9, va_K.moved hW.alike hK9, hD9⟩⟩, hS.F ht⟩) hS.2.2 dX11_refused_6
set_option maxHeartbeats 4000000 in
set_option maxRecDepth 100000 in
theorem c_X11_failed (l : Launch) (dC : Nat → ClassId) (dI : Nat → Nat → Nat)  (sz : Nat) (qm : Nat) (w0 : Value) (w1 : Value) (w2 : Value) (w3 : Value) (w4 : Value) (w5 : Value) (w6 : Value) (w7 : Value) (w8 : Value) (w9 : Value) (w10 : Value) (w11 : Value) (w12 : Value) (w13 : Value) (w14 : Value) (w15 : Value) (w16 : Value) (w17 : Value) (w18 : Value) (w19 : Value) (w20 : Value) (w21 : Value) (w22 : Value) (w23 : Value) (w24 : Value) (w25 : Value) (w26 : Value) (w27 : Value) (w28 : Value) (w29 : Value) (w30 : Value) (w31 : Value) (w32 : Value) (w33 : Value) (w34 : Value) (w35 : Value) (w36 : Value) (w37 : Value) (w38 : Value) (k : Int32)  : Met l yX11_failed wsX11_failed ({ frames := 0, cells := 0, slots := 0, locals := 0 }) (pw (dC, dI) [] [(qm, .inr (11, [w0, w1, w2, w3, w4, w5, w6, w7, w8, w9, w10, w11, w12, w13, w14, w15, w16, w17, w18, w19, w20, w21, w22, w23, w24, w25, w26, w27, w28, w29, w30, w31, w32, w33, w34, w35, w36, w37, w38]))] sz [.ref qm, .int k]) (va_Qi (fun r (_ : Unit) => r = -10 - k) (fun _ t => bw (dC, dI) [] (va_A [(qm, .inr (11, [w0, w1, w2, w3, w4, w5, w6, w7, w8, w9, w10, w11, w12, w13, w14, w15, w16, w17, w18, w19, w20, w21, w22, w23, w24, w25, w26, w27, w28, w29, w30, w31, w32, w33, w34, w35, w36, w37, w38]))] sz) [(qm, .inr (11, [.int k, w1, w2, w3, w4, w5, w6, w7, w8, w9, w10, w11, w12, w13, w14, w15, w16, w17, w18, w19, w20, w21, w22, w23, w24, w25, w26, w27, w28, w29, w30, w31, w32, w33, w34, w35, w36, w37, w38]))] t) (va_A [(qm, .inr (11, [w0, w1, w2, w3, w4, w5, w6, w7, w8, w9, w10, w11, w12, w13, w14, w15, w16, w17, w18, w19, w20, w21, w22, w23, w24, w25, w26, w27, w28, w29, w30, w31, w32, w33, w34, w35, w36, w37, w38]))] sz)) 0 0 (va_A [(qm, .inr (11, [w0, w1, w2, w3, w4, w5, w6, w7, w8, w9, w10, w11, w12, w13, w14, w15, w16, w17, w18, w19, w20, w21, w22, w23, w24, w25, w26, w27, w28, w29, w30, w31, w32, w33, w34, w35, w36, w37, w38]))] sz) := by
  refine pw_met (cc := cX11_failed) (maxL := 2) (ret := (some .int)) (by decide) rfl (Nat.le_of_ble_eq_true rfl) ?_
  intro p e s m below meth c0 hx hb hr hml hown hlocks hnm hts hP hK hD hN hsz hA hS ls hl
  subst hsz
  have hl : lv_has ls 2 [(0, .ref qm), (1, .int k)] := hl
  have hiX11 : ∀ w ∈ wsX110, w ∈ wsX11_failed := by decide +kernel
  refine lv_aload_n hx hb dX11_failed_0 rfl (lv_at hl 0 rfl) ?_
  refine lv_iload_n hx hb dX11_failed_1 rfl (lv_at hl 1 rfl) ?_
  refine va_put (D := (dC, dI)) (ci := 11) (v := .int k) (ty := .int) (C := RX11) (T := TX11) (N := 39) hx hb hts hiX11 tyX11 tyX11_ok nmX11 hown hK hP hD hS 0 rfl rfl 0 (by decide) (hts (.fieldLink RX11 102 "TributePitchesModel" "fault" "I") (by decide +kernel)) (fun _ h9 => h9) rfl (by decide +kernel) rfl rfl (Nat.le_of_ble_eq_true rfl) dX11_failed_2 (fun H locs hP hD hS => ?_)
  have hP : va_P (dC, dI) vwCl [(qm, .inr (11, [.int k, w1, w2, w3, w4, w5, w6, w7, w8, w9, w10, w11, w12, w13, w14, w15, w16, w17, w18, w19, w20, w21, w22, w23, w24, w25, w26, w27, w28, w29, w30, w31, w32, w33, w34, w35, w36, w37, w38]))] H := hP
  have hD : va_D _ [(qm, .inr (11, [.int k, w1, w2, w3, w4, w5, w6, w7, w8, w9, w10, w11, w12, w13, w14, w15, w16, w17, w18, w19, w20, w21, w22, w23, w24, w25, w26, w27, w28, w29, w30, w31, w32, w33, w34, w35, w36, w37, w38]))] := hD
  refine lv_bipush (v := (-10)) hx hb dX11_failed_5 (by decide) ?_
  refine lv_iload_n hx hb dX11_failed_7 rfl (lv_at hl 1 rfl) ?_
  refine lv_isub hx hb dX11_failed_8 ?_
  have hP9 := hP.sub (ws' := [(qm, .inr (11, [.int k, w1, w2, w3, w4, w5, w6, w7, w8, w9, w10, w11, w12, w13, w14, w15, w16, w17, w18, w19, w20, w21, w22, w23, w24, w25, w26, w27, w28, w29, w30, w31, w32, w33, w34, w35, w36, w37, w38]))]) [0] rfl
  have hD9 := hD.sub (ws' := [(qm, .inr (11, [.int k, w1, w2, w3, w4, w5, w6, w7, w8, w9, w10, w11, w12, w13, w14, w15, w16, w17, w18, w19, w20, w21, w22, w23, w24, w25, w26, w27, w28, w29, w30, w31, w32, w33, w34, w35, w36, w37, w38]))]) [0] (by decide) rfl
  have hK9 := hK.sub (tys' := []) [] rfl
  exact W.iret (v := (-10) - k) hx hb hr (fun t ht hW => ⟨⟨(-10) - k, (), rfl, rfl, ⟨by rw [ht]; exact hP9, va_K.moved hW.alike hK9, hD9⟩⟩, hS.F ht⟩) hS.2.2 dX11_failed_9
set_option maxHeartbeats 4000000 in
set_option maxRecDepth 100000 in
theorem c_X11_failedLong (l : Launch) (dC : Nat → ClassId) (dI : Nat → Nat → Nat)  (sz : Nat) (qm : Nat) (w0 : Value) (w1 : Value) (w2 : Value) (w3 : Value) (w4 : Value) (w5 : Value) (w6 : Value) (w7 : Value) (w8 : Value) (w9 : Value) (w10 : Value) (w11 : Value) (w12 : Value) (w13 : Value) (w14 : Value) (w15 : Value) (w16 : Value) (w17 : Value) (w18 : Value) (w19 : Value) (w20 : Value) (w21 : Value) (w22 : Value) (w23 : Value) (w24 : Value) (w25 : Value) (w26 : Value) (w27 : Value) (w28 : Value) (w29 : Value) (w30 : Value) (w31 : Value) (w32 : Value) (w33 : Value) (w34 : Value) (w35 : Value) (w36 : Value) (w37 : Value) (w38 : Value) (k : Int32)  : Met l yX11_failedLong wsX11_failedLong ({ frames := 1, cells := 0, slots := 0, locals := 30 }) (pw (dC, dI) [] [(qm, .inr (11, [w0, w1, w2, w3, w4, w5, w6, w7, w8, w9, w10, w11, w12, w13, w14, w15, w16, w17, w18, w19, w20, w21, w22, w23, w24, w25, w26, w27, w28, w29, w30, w31, w32, w33, w34, w35, w36, w37, w38]))] sz [.ref qm, .int k]) (va_Ql (fun r (_ : Unit) => r = (-9223372036854775808)) (fun _ t => bw (dC, dI) [] (va_A [(qm, .inr (11, [w0, w1, w2, w3, w4, w5, w6, w7, w8, w9, w10, w11, w12, w13, w14, w15, w16, w17, w18, w19, w20, w21, w22, w23, w24, w25, w26, w27, w28, w29, w30, w31, w32, w33, w34, w35, w36, w37, w38]))] sz) [(qm, .inr (11, [.int k, w1, w2, w3, w4, w5, w6, w7, w8, w9, w10, w11, w12, w13, w14, w15, w16, w17, w18, w19, w20, w21, w22, w23, w24, w25, w26, w27, w28, w29, w30, w31, w32, w33, w34, w35, w36, w37, w38]))] t) (va_A [(qm, .inr (11, [w0, w1, w2, w3, w4, w5, w6, w7, w8, w9, w10, w11, w12, w13, w14, w15, w16, w17, w18, w19, w20, w21, w22, w23, w24, w25, w26, w27, w28, w29, w30, w31, w32, w33, w34, w35, w36, w37, w38]))] sz)) 0 0 (va_A [(qm, .inr (11, [w0, w1, w2, w3, w4, w5, w6, w7, w8, w9, w10, w11, w12, w13, w14, w15, w16, w17, w18, w19, w20, w21, w22, w23, w24, w25, w26, w27, w28, w29, w30, w31, w32, w33, w34, w35, w36, w37, w38]))] sz) := by
  refine pw_met (cc := cX11_failedLong) (maxL := 2) (ret := (some .long)) (by decide) rfl (Nat.le_of_ble_eq_true rfl) ?_
  intro p e s m below meth c0 hx hb hr hml hown hlocks hnm hts hP hK hD hN hsz hA hS ls hl
  subst hsz
  have hl : lv_has ls 2 [(0, .ref qm), (1, .int k)] := hl
  have hiX11 : ∀ w ∈ wsX110, w ∈ wsX11_failedLong := by decide +kernel
  refine lv_aload_n hx hb dX11_failedLong_0 rfl (lv_at hl 0 rfl) ?_
  refine lv_iload_n hx hb dX11_failedLong_1 rfl (lv_at hl 1 rfl) ?_
  refine va_put (D := (dC, dI)) (ci := 11) (v := .int k) (ty := .int) (C := RX11) (T := TX11) (N := 39) hx hb hts hiX11 tyX11 tyX11_ok nmX11 hown hK hP hD hS 0 rfl rfl 0 (by decide) (hts (.fieldLink RX11 102 "TributePitchesModel" "fault" "I") (by decide +kernel)) (fun _ h9 => h9) rfl (by decide +kernel) rfl rfl (Nat.le_of_ble_eq_true rfl) dX11_failedLong_2 (fun H locs hP hD hS => ?_)
  have hP : va_P (dC, dI) vwCl [(qm, .inr (11, [.int k, w1, w2, w3, w4, w5, w6, w7, w8, w9, w10, w11, w12, w13, w14, w15, w16, w17, w18, w19, w20, w21, w22, w23, w24, w25, w26, w27, w28, w29, w30, w31, w32, w33, w34, w35, w36, w37, w38]))] H := hP
  have hD : va_D _ [(qm, .inr (11, [.int k, w1, w2, w3, w4, w5, w6, w7, w8, w9, w10, w11, w12, w13, w14, w15, w16, w17, w18, w19, w20, w21, w22, w23, w24, w25, w26, w27, w28, w29, w30, w31, w32, w33, w34, w35, w36, w37, w38]))] := hD
  refine vp_callSl (va_Run.run (va_runS (As := []) (rest := []) ⟨hx, hb, hml, hown, hts⟩ (c_X11_lost l  ) (va_cwS 0 hts gX11_failedLong_X11_lost rfl rfl rfl (by decide +kernel) ⟨Nat.le_of_ble_eq_true rfl, Nat.le_of_ble_eq_true rfl⟩) (p0_preS hN) rfl rfl hl.1 rfl (lv_room (Nat.le_of_ble_eq_true rfl)) dX11_failedLong_5 ⟨Nat.le_of_ble_eq_true rfl, Nat.le_of_ble_eq_true rfl⟩)) (fun r1 hr1 => ?_)
  have hr1 : r1 = (-9223372036854775808) := hr1
  subst hr1
  have hP9 := hP.sub (ws' := [(qm, .inr (11, [.int k, w1, w2, w3, w4, w5, w6, w7, w8, w9, w10, w11, w12, w13, w14, w15, w16, w17, w18, w19, w20, w21, w22, w23, w24, w25, w26, w27, w28, w29, w30, w31, w32, w33, w34, w35, w36, w37, w38]))]) [0] rfl
  have hD9 := hD.sub (ws' := [(qm, .inr (11, [.int k, w1, w2, w3, w4, w5, w6, w7, w8, w9, w10, w11, w12, w13, w14, w15, w16, w17, w18, w19, w20, w21, w22, w23, w24, w25, w26, w27, w28, w29, w30, w31, w32, w33, w34, w35, w36, w37, w38]))]) [0] (by decide) rfl
  have hK9 := hK.sub (tys' := []) [] rfl
  exact W.lret (v := (-9223372036854775808)) hx hb hr (fun t ht hW => ⟨⟨(-9223372036854775808), (), rfl, rfl, ⟨by rw [ht]; exact hP9, va_K.moved hW.alike hK9, hD9⟩⟩, hS.F ht⟩) hS.2.2 dX11_failedLong_8
set_option maxHeartbeats 4000000 in
set_option maxRecDepth 100000 in
theorem c_X11_foretold (l : Launch) (dC : Nat → ClassId) (dI : Nat → Nat → Nat)  (sz : Nat) (qm : Nat) (w0 : Value) (w1 : Value) (w2 : Value) (w3 : Value) (w4 : Value) (w5 : Value) (w6 : Value) (w7 : Value) (w8 : Value) (w9 : Value) (w10 : Value) (w12 : Value) (w13 : Value) (w14 : Value) (w15 : Value) (w16 : Value) (w17 : Value) (w18 : Value) (w19 : Value) (w20 : Value) (w21 : Value) (w22 : Value) (w23 : Value) (w24 : Value) (w25 : Value) (w26 : Value) (w27 : Value) (w28 : Value) (w29 : Value) (w30 : Value) (w31 : Value) (w32 : Value) (w33 : Value) (w34 : Value) (w35 : Value) (w36 : Value) (w37 : Value) (w38 : Value) (a0 : Int32) (a1 : Int32)  : Met l yX11_foretold wsX11_foretold ({ frames := 2, cells := 0, slots := 0, locals := 60 }) (pw (dC, dI) [] [(qm, .inr (11, [w0, w1, w2, w3, w4, w5, w6, w7, w8, w9, w10, .int 0, w12, w13, w14, w15, w16, w17, w18, w19, w20, w21, w22, w23, w24, w25, w26, w27, w28, w29, w30, w31, w32, w33, w34, w35, w36, w37, w38]))] sz [.ref qm, .int a0, .int a1]) (vp_Sl (fun r => r = (-9223372036854775808))) 0 0 (fun _ => False) := by
  refine pw_met (cc := cX11_foretold) (maxL := 3) (ret := (some .long)) (by decide) rfl (Nat.le_of_ble_eq_true rfl) ?_
  intro p e s m below meth c0 hx hb hr hml hown hlocks hnm hts hP hK hD hN hsz hA hS ls hl
  have hl : lv_has ls 3 [(0, .ref qm), (1, .int a0), (2, .int a1)] := hl
  refine lv_aload_n hx hb dX11_foretold_0 rfl (lv_at hl 0 rfl) ?_
  refine lv_iload_n hx hb dX11_foretold_1 rfl (lv_at hl 1 rfl) ?_
  have hPc := hP.sub (ws' := [(qm, .inr (11, [w0, w1, w2, w3, w4, w5, w6, w7, w8, w9, w10, .int 0, w12, w13, w14, w15, w16, w17, w18, w19, w20, w21, w22, w23, w24, w25, w26, w27, w28, w29, w30, w31, w32, w33, w34, w35, w36, w37, w38]))]) [0] rfl
  have hDc := hD.sub (ws' := [(qm, .inr (11, [w0, w1, w2, w3, w4, w5, w6, w7, w8, w9, w10, .int 0, w12, w13, w14, w15, w16, w17, w18, w19, w20, w21, w22, w23, w24, w25, w26, w27, w28, w29, w30, w31, w32, w33, w34, w35, w36, w37, w38]))]) [0] (by decide) rfl
  have hKc := hK.sub (tys' := []) [] rfl
  refine vp_callSi (va_Run.run (va_runV (As := [.int a0]) (rest := []) ⟨hx, hb, hml, hown, hts⟩ (c_X11_noPitch l dC dI  _ qm w0 w1 w2 w3 w4 w5 w6 w7 w8 w9 w10 w12 w13 w14 w15 w16 w17 w18 w19 w20 w21 w22 w23 w24 w25 w26 w27 w28 w29 w30 w31 w32 w33 w34 w35 w36 w37 w38 a0 ) (cwV 1 hts gX11_foretold_X11_noPitch rfl rfl rfl (by decide +kernel) ⟨Nat.le_of_ble_eq_true rfl, Nat.le_of_ble_eq_true rfl⟩) (pw_preV (va_recv hKc hPc (ci := 11) (q0 := 0) rfl rfl) hPc hKc hDc hN) rfl rfl hl.1 rfl (lv_room (Nat.le_of_ble_eq_true rfl)) dX11_foretold_2 ⟨Nat.le_of_ble_eq_true rfl, Nat.le_of_ble_eq_true rfl⟩)) (fun r1 hr1 => ?_)
  have hr1 : r1 = 1 := hr1
  subst hr1
  refine lv_if_ne (tgt := 18) hx hb dX11_foretold_5 (by decide) (fun c2 => ?_) (fun c2 => ?_)
  · skip
    refine vp_callSl (va_Run.run (va_runS (As := []) (rest := []) ⟨hx, hb, hml, hown, hts⟩ (c_X11_lost l  ) (va_cwS 0 hts gX11_foretold_X11_lost rfl rfl rfl (by decide +kernel) ⟨Nat.le_of_ble_eq_true rfl, Nat.le_of_ble_eq_true rfl⟩) (p0_preS hN) rfl rfl hl.1 rfl (lv_room (Nat.le_of_ble_eq_true rfl)) dX11_foretold_18 ⟨Nat.le_of_ble_eq_true rfl, Nat.le_of_ble_eq_true rfl⟩)) (fun r3 hr3 => ?_)
    have hr3 : r3 = (-9223372036854775808) := hr3
    subst hr3
    refine lv_goto (tgt := 30) hx hb dX11_foretold_21 (by decide) ?_
    exact W.lret (v := (-9223372036854775808)) hx hb hr (fun t ht hW => ⟨(-9223372036854775808), rfl, rfl, ht⟩) (fun q h => absurd h List.not_mem_nil) dX11_foretold_30
  · exact absurd c2 (by decide)
set_option maxHeartbeats 4000000 in
set_option maxRecDepth 100000 in
theorem c_X11_auction (l : Launch) (dC : Nat → ClassId) (dI : Nat → Nat → Nat)  (sz : Nat) (qm : Nat) (w0 : Value) (w1 : Value) (w2 : Value) (w3 : Value) (w4 : Value) (w5 : Value) (w6 : Value) (w7 : Value) (w8 : Value) (w9 : Value) (w10 : Value) (w12 : Value) (w13 : Value) (w14 : Value) (w15 : Value) (w16 : Value) (w17 : Value) (w18 : Value) (w19 : Value) (w20 : Value) (w21 : Value) (w22 : Value) (w23 : Value) (w24 : Value) (w25 : Value) (w26 : Value) (w27 : Value) (w28 : Value) (w29 : Value) (w30 : Value) (w31 : Value) (w32 : Value) (w33 : Value) (w34 : Value) (w35 : Value) (w36 : Value) (w37 : Value) (w38 : Value) (a0 : Int32) (a1 : Int32)  : Met l yX11_auction wsX11_auction ({ frames := 2, cells := 0, slots := 0, locals := 60 }) (pw (dC, dI) [] [(qm, .inr (11, [w0, w1, w2, w3, w4, w5, w6, w7, w8, w9, w10, .int 0, w12, w13, w14, w15, w16, w17, w18, w19, w20, w21, w22, w23, w24, w25, w26, w27, w28, w29, w30, w31, w32, w33, w34, w35, w36, w37, w38]))] sz [.ref qm, .int a0, .int a1]) (vp_Si (fun r => r = -1)) 0 0 (fun _ => False) := by
  refine pw_met (cc := cX11_auction) (maxL := 3) (ret := (some .int)) (by decide) rfl (Nat.le_of_ble_eq_true rfl) ?_
  intro p e s m below meth c0 hx hb hr hml hown hlocks hnm hts hP hK hD hN hsz hA hS ls hl
  have hl : lv_has ls 3 [(0, .ref qm), (1, .int a0), (2, .int a1)] := hl
  refine lv_aload_n hx hb dX11_auction_0 rfl (lv_at hl 0 rfl) ?_
  refine lv_iload_n hx hb dX11_auction_1 rfl (lv_at hl 1 rfl) ?_
  have hPc := hP.sub (ws' := [(qm, .inr (11, [w0, w1, w2, w3, w4, w5, w6, w7, w8, w9, w10, .int 0, w12, w13, w14, w15, w16, w17, w18, w19, w20, w21, w22, w23, w24, w25, w26, w27, w28, w29, w30, w31, w32, w33, w34, w35, w36, w37, w38]))]) [0] rfl
  have hDc := hD.sub (ws' := [(qm, .inr (11, [w0, w1, w2, w3, w4, w5, w6, w7, w8, w9, w10, .int 0, w12, w13, w14, w15, w16, w17, w18, w19, w20, w21, w22, w23, w24, w25, w26, w27, w28, w29, w30, w31, w32, w33, w34, w35, w36, w37, w38]))]) [0] (by decide) rfl
  have hKc := hK.sub (tys' := []) [] rfl
  refine vp_callSi (va_Run.run (va_runV (As := [.int a0]) (rest := []) ⟨hx, hb, hml, hown, hts⟩ (c_X11_noPitch l dC dI  _ qm w0 w1 w2 w3 w4 w5 w6 w7 w8 w9 w10 w12 w13 w14 w15 w16 w17 w18 w19 w20 w21 w22 w23 w24 w25 w26 w27 w28 w29 w30 w31 w32 w33 w34 w35 w36 w37 w38 a0 ) (cwV 1 hts gX11_auction_X11_noPitch rfl rfl rfl (by decide +kernel) ⟨Nat.le_of_ble_eq_true rfl, Nat.le_of_ble_eq_true rfl⟩) (pw_preV (va_recv hKc hPc (ci := 11) (q0 := 0) rfl rfl) hPc hKc hDc hN) rfl rfl hl.1 rfl (lv_room (Nat.le_of_ble_eq_true rfl)) dX11_auction_2 ⟨Nat.le_of_ble_eq_true rfl, Nat.le_of_ble_eq_true rfl⟩)) (fun r1 hr1 => ?_)
  have hr1 : r1 = 1 := hr1
  subst hr1
  refine lv_if_eq (tgt := 10) hx hb dX11_auction_5 (by decide) (fun c2 => ?_) (fun c2 => ?_)
  · exact absurd c2 (by decide)
  · skip
    refine lv_iconst (v := (-1)) hx hb dX11_auction_8 (by decide) ?_
    exact W.iret (v := (-1)) hx hb hr (fun t ht hW => ⟨(-1), rfl, rfl, ht⟩) (fun q h => absurd h List.not_mem_nil) dX11_auction_9
set_option maxHeartbeats 4000000 in
set_option maxRecDepth 100000 in
theorem c_X11_bid (l : Launch) (dC : Nat → ClassId) (dI : Nat → Nat → Nat)  (sz : Nat) (qm : Nat) (w0 : Value) (w1 : Value) (w2 : Value) (w3 : Value) (w4 : Value) (w5 : Value) (w6 : Value) (w7 : Value) (w8 : Value) (w9 : Value) (w10 : Value) (w11 : Value) (w12 : Value) (w13 : Value) (w14 : Value) (w15 : Value) (w16 : Value) (w18 : Value) (w19 : Value) (w20 : Value) (w21 : Value) (w22 : Value) (w23 : Value) (w24 : Value) (w25 : Value) (w26 : Value) (w27 : Value) (w28 : Value) (w29 : Value) (w30 : Value) (w31 : Value) (w32 : Value) (w33 : Value) (w34 : Value) (w35 : Value) (w36 : Value) (w37 : Value) (w38 : Value) (a0 : Int32) (a1 : Int32)  : Met l yX11_bid wsX11_bid ({ frames := 2, cells := 0, slots := 0, locals := 60 }) (pw (dC, dI) [] [(qm, .inr (11, [w0, w1, w2, w3, w4, w5, w6, w7, w8, w9, w10, w11, w12, w13, w14, w15, w16, .int 0, w18, w19, w20, w21, w22, w23, w24, w25, w26, w27, w28, w29, w30, w31, w32, w33, w34, w35, w36, w37, w38]))] sz [.ref qm, .int a0, .int a1]) (vp_Si (fun r => r = -1)) 0 0 (fun _ => False) := by
  refine pw_met (cc := cX11_bid) (maxL := 3) (ret := (some .int)) (by decide) rfl (Nat.le_of_ble_eq_true rfl) ?_
  intro p e s m below meth c0 hx hb hr hml hown hlocks hnm hts hP hK hD hN hsz hA hS ls hl
  have hl : lv_has ls 3 [(0, .ref qm), (1, .int a0), (2, .int a1)] := hl
  refine lv_aload_n hx hb dX11_bid_0 rfl (lv_at hl 0 rfl) ?_
  refine lv_iload_n hx hb dX11_bid_1 rfl (lv_at hl 1 rfl) ?_
  have hPc := hP.sub (ws' := [(qm, .inr (11, [w0, w1, w2, w3, w4, w5, w6, w7, w8, w9, w10, w11, w12, w13, w14, w15, w16, .int 0, w18, w19, w20, w21, w22, w23, w24, w25, w26, w27, w28, w29, w30, w31, w32, w33, w34, w35, w36, w37, w38]))]) [0] rfl
  have hDc := hD.sub (ws' := [(qm, .inr (11, [w0, w1, w2, w3, w4, w5, w6, w7, w8, w9, w10, w11, w12, w13, w14, w15, w16, .int 0, w18, w19, w20, w21, w22, w23, w24, w25, w26, w27, w28, w29, w30, w31, w32, w33, w34, w35, w36, w37, w38]))]) [0] (by decide) rfl
  have hKc := hK.sub (tys' := []) [] rfl
  refine vp_callSi (va_Run.run (va_runV (As := [.int a0]) (rest := []) ⟨hx, hb, hml, hown, hts⟩ (c_X11_noGang l dC dI  _ qm w0 w1 w2 w3 w4 w5 w6 w7 w8 w9 w10 w11 w12 w13 w14 w15 w16 w18 w19 w20 w21 w22 w23 w24 w25 w26 w27 w28 w29 w30 w31 w32 w33 w34 w35 w36 w37 w38 a0 ) (cwV 1 hts gX11_bid_X11_noGang rfl rfl rfl (by decide +kernel) ⟨Nat.le_of_ble_eq_true rfl, Nat.le_of_ble_eq_true rfl⟩) (pw_preV (va_recv hKc hPc (ci := 11) (q0 := 0) rfl rfl) hPc hKc hDc hN) rfl rfl hl.1 rfl (lv_room (Nat.le_of_ble_eq_true rfl)) dX11_bid_2 ⟨Nat.le_of_ble_eq_true rfl, Nat.le_of_ble_eq_true rfl⟩)) (fun r1 hr1 => ?_)
  have hr1 : r1 = 1 := hr1
  subst hr1
  refine lv_if_eq (tgt := 10) hx hb dX11_bid_5 (by decide) (fun c2 => ?_) (fun c2 => ?_)
  · exact absurd c2 (by decide)
  · skip
    refine lv_iconst (v := (-1)) hx hb dX11_bid_8 (by decide) ?_
    exact W.iret (v := (-1)) hx hb hr (fun t ht hW => ⟨(-1), rfl, rfl, ht⟩) (fun q h => absurd h List.not_mem_nil) dX11_bid_9
set_option maxHeartbeats 4000000 in
set_option maxRecDepth 100000 in
theorem c_X11_strike (l : Launch) (dC : Nat → ClassId) (dI : Nat → Nat → Nat)  (sz : Nat) (qm : Nat) (w0 : Value) (w1 : Value) (w2 : Value) (w3 : Value) (w4 : Value) (w5 : Value) (w6 : Value) (w7 : Value) (w8 : Value) (w9 : Value) (w10 : Value) (w11 : Value) (w12 : Value) (w13 : Value) (w14 : Value) (w15 : Value) (w16 : Value) (w17 : Value) (w18 : Value) (w19 : Value) (w21 : Value) (w22 : Value) (w23 : Value) (w24 : Value) (w25 : Value) (w26 : Value) (w27 : Value) (w28 : Value) (w29 : Value) (w30 : Value) (w31 : Value) (w32 : Value) (w33 : Value) (w34 : Value) (w35 : Value) (w36 : Value) (w37 : Value) (w38 : Value)  : Met l yX11_strike wsX11_strike ({ frames := 2, cells := 0, slots := 0, locals := 60 }) (pw (dC, dI) [] [(qm, .inr (11, [w0, w1, w2, w3, w4, w5, w6, w7, w8, w9, w10, w11, w12, w13, w14, w15, w16, w17, w18, w19, .int (-9), w21, w22, w23, w24, w25, w26, w27, w28, w29, w30, w31, w32, w33, w34, w35, w36, w37, w38]))] sz [.ref qm]) (vp_Si (fun r => r = -3)) 0 0 (fun _ => False) := by
  refine pw_met (cc := cX11_strike) (maxL := 1) (ret := (some .int)) (by decide) rfl (Nat.le_of_ble_eq_true rfl) ?_
  intro p e s m below meth c0 hx hb hr hml hown hlocks hnm hts hP hK hD hN hsz hA hS ls hl
  have hl : lv_has ls 1 [(0, .ref qm)] := hl
  have hiX11 : ∀ w ∈ wsX110, w ∈ wsX11_strike := by decide +kernel
  refine lv_aload_n hx hb dX11_strike_0 rfl (lv_at hl 0 rfl) ?_
  refine va_get (D := (dC, dI)) (ci := 11) (v := .int (-9)) (C := RX11) (T := TX11) (N := 39) hx hb hts hiX11 hown hK hP 0 rfl rfl 20 (by decide) (hts (.fieldLink RX11 97 "TributePitchesModel" "sold" "I") (by decide +kernel)) (fun _ h9 => h9) rfl dX11_strike_1 ?_
  refine lv_if_ge (tgt := 10) hx hb dX11_strike_4 (by decide) (fun c1 => ?_) (fun c1 => ?_)
  · exact absurd c1 (by decide)
  · skip
    refine lv_bipush (v := (-3)) hx hb dX11_strike_7 (by decide) ?_
    exact W.iret (v := (-3)) hx hb hr (fun t ht hW => ⟨(-3), rfl, rfl, ht⟩) (fun q h => absurd h List.not_mem_nil) dX11_strike_9
set_option maxHeartbeats 4000000 in
set_option maxRecDepth 100000 in
theorem c_X11_about (l : Launch) (dC : Nat → ClassId) (dI : Nat → Nat → Nat)  (sz : Nat) (qm : Nat) (w0 : Value) (w1 : Value) (w2 : Value) (w3 : Value) (w4 : Value) (w5 : Value) (w6 : Value) (w7 : Value) (w8 : Value) (w9 : Value) (w10 : Value) (w12 : Value) (w13 : Value) (w14 : Value) (w15 : Value) (w16 : Value) (w17 : Value) (w18 : Value) (w19 : Value) (w20 : Value) (w21 : Value) (w22 : Value) (w23 : Value) (w24 : Value) (w25 : Value) (w26 : Value) (w27 : Value) (w28 : Value) (w29 : Value) (w30 : Value) (w31 : Value) (w32 : Value) (w33 : Value) (w34 : Value) (w35 : Value) (w36 : Value) (w37 : Value) (w38 : Value) (a0 : Int32) (a1 : Int32)  : Met l yX11_about wsX11_about ({ frames := 2, cells := 0, slots := 0, locals := 60 }) (pw (dC, dI) [] [(qm, .inr (11, [w0, w1, w2, w3, w4, w5, w6, w7, w8, w9, w10, .int 0, w12, w13, w14, w15, w16, w17, w18, w19, w20, w21, w22, w23, w24, w25, w26, w27, w28, w29, w30, w31, w32, w33, w34, w35, w36, w37, w38]))] sz [.ref qm, .int a0, .int a1]) (vp_Si (fun r => r = -1)) 0 0 (fun _ => False) := by
  refine pw_met (cc := cX11_about) (maxL := 3) (ret := (some .int)) (by decide) rfl (Nat.le_of_ble_eq_true rfl) ?_
  intro p e s m below meth c0 hx hb hr hml hown hlocks hnm hts hP hK hD hN hsz hA hS ls hl
  have hl : lv_has ls 3 [(0, .ref qm), (1, .int a0), (2, .int a1)] := hl
  refine lv_aload_n hx hb dX11_about_0 rfl (lv_at hl 0 rfl) ?_
  refine lv_iload_n hx hb dX11_about_1 rfl (lv_at hl 1 rfl) ?_
  have hPc := hP.sub (ws' := [(qm, .inr (11, [w0, w1, w2, w3, w4, w5, w6, w7, w8, w9, w10, .int 0, w12, w13, w14, w15, w16, w17, w18, w19, w20, w21, w22, w23, w24, w25, w26, w27, w28, w29, w30, w31, w32, w33, w34, w35, w36, w37, w38]))]) [0] rfl
  have hDc := hD.sub (ws' := [(qm, .inr (11, [w0, w1, w2, w3, w4, w5, w6, w7, w8, w9, w10, .int 0, w12, w13, w14, w15, w16, w17, w18, w19, w20, w21, w22, w23, w24, w25, w26, w27, w28, w29, w30, w31, w32, w33, w34, w35, w36, w37, w38]))]) [0] (by decide) rfl
  have hKc := hK.sub (tys' := []) [] rfl
  refine vp_callSi (va_Run.run (va_runV (As := [.int a0]) (rest := []) ⟨hx, hb, hml, hown, hts⟩ (c_X11_noPitch l dC dI  _ qm w0 w1 w2 w3 w4 w5 w6 w7 w8 w9 w10 w12 w13 w14 w15 w16 w17 w18 w19 w20 w21 w22 w23 w24 w25 w26 w27 w28 w29 w30 w31 w32 w33 w34 w35 w36 w37 w38 a0 ) (cwV 1 hts gX11_about_X11_noPitch rfl rfl rfl (by decide +kernel) ⟨Nat.le_of_ble_eq_true rfl, Nat.le_of_ble_eq_true rfl⟩) (pw_preV (va_recv hKc hPc (ci := 11) (q0 := 0) rfl rfl) hPc hKc hDc hN) rfl rfl hl.1 rfl (lv_room (Nat.le_of_ble_eq_true rfl)) dX11_about_2 ⟨Nat.le_of_ble_eq_true rfl, Nat.le_of_ble_eq_true rfl⟩)) (fun r1 hr1 => ?_)
  have hr1 : r1 = 1 := hr1
  subst hr1
  refine lv_if_eq (tgt := 10) hx hb dX11_about_5 (by decide) (fun c2 => ?_) (fun c2 => ?_)
  · exact absurd c2 (by decide)
  · skip
    refine lv_iconst (v := (-1)) hx hb dX11_about_8 (by decide) ?_
    exact W.iret (v := (-1)) hx hb hr (fun t ht hW => ⟨(-1), rfl, rfl, ht⟩) (fun q h => absurd h List.not_mem_nil) dX11_about_9
set_option maxHeartbeats 4000000 in
set_option maxRecDepth 100000 in
theorem c_X11_parcel (l : Launch) (dC : Nat → ClassId) (dI : Nat → Nat → Nat)  (sz : Nat) (qm : Nat) (w0 : Value) (w1 : Value) (w2 : Value) (w3 : Value) (w4 : Value) (w5 : Value) (w6 : Value) (w7 : Value) (w8 : Value) (w9 : Value) (w10 : Value) (w11 : Value) (w12 : Value) (w13 : Value) (w14 : Value) (w15 : Value) (w16 : Value) (w17 : Value) (w18 : Value) (w19 : Value) (w20 : Value) (w21 : Value) (w22 : Value) (w23 : Value) (w25 : Value) (w26 : Value) (w27 : Value) (w28 : Value) (w29 : Value) (w30 : Value) (w31 : Value) (w32 : Value) (w33 : Value) (w34 : Value) (w35 : Value) (w36 : Value) (w37 : Value) (w38 : Value) (a0 : Int32) (a1 : Int32) (a2 : Int32)  : Met l yX11_parcel wsX11_parcel ({ frames := 2, cells := 0, slots := 0, locals := 60 }) (pw (dC, dI) [] [(qm, .inr (11, [w0, w1, w2, w3, w4, w5, w6, w7, w8, w9, w10, w11, w12, w13, w14, w15, w16, w17, w18, w19, w20, w21, w22, w23, .int 0, w25, w26, w27, w28, w29, w30, w31, w32, w33, w34, w35, w36, w37, w38]))] sz [.ref qm, .int a0, .int a1, .int a2]) (vp_Si (fun r => r = -1)) 0 0 (fun _ => False) := by
  refine pw_met (cc := cX11_parcel) (maxL := 4) (ret := (some .int)) (by decide) rfl (Nat.le_of_ble_eq_true rfl) ?_
  intro p e s m below meth c0 hx hb hr hml hown hlocks hnm hts hP hK hD hN hsz hA hS ls hl
  have hl : lv_has ls 4 [(0, .ref qm), (1, .int a0), (2, .int a1), (3, .int a2)] := hl
  refine lv_aload_n hx hb dX11_parcel_0 rfl (lv_at hl 0 rfl) ?_
  refine lv_iload_n hx hb dX11_parcel_1 rfl (lv_at hl 1 rfl) ?_
  have hPc := hP.sub (ws' := [(qm, .inr (11, [w0, w1, w2, w3, w4, w5, w6, w7, w8, w9, w10, w11, w12, w13, w14, w15, w16, w17, w18, w19, w20, w21, w22, w23, .int 0, w25, w26, w27, w28, w29, w30, w31, w32, w33, w34, w35, w36, w37, w38]))]) [0] rfl
  have hDc := hD.sub (ws' := [(qm, .inr (11, [w0, w1, w2, w3, w4, w5, w6, w7, w8, w9, w10, w11, w12, w13, w14, w15, w16, w17, w18, w19, w20, w21, w22, w23, .int 0, w25, w26, w27, w28, w29, w30, w31, w32, w33, w34, w35, w36, w37, w38]))]) [0] (by decide) rfl
  have hKc := hK.sub (tys' := []) [] rfl
  refine vp_callSi (va_Run.run (va_runV (As := [.int a0]) (rest := []) ⟨hx, hb, hml, hown, hts⟩ (c_X11_noTake l dC dI  _ qm w0 w1 w2 w3 w4 w5 w6 w7 w8 w9 w10 w11 w12 w13 w14 w15 w16 w17 w18 w19 w20 w21 w22 w23 w25 w26 w27 w28 w29 w30 w31 w32 w33 w34 w35 w36 w37 w38 a0 ) (cwV 1 hts gX11_parcel_X11_noTake rfl rfl rfl (by decide +kernel) ⟨Nat.le_of_ble_eq_true rfl, Nat.le_of_ble_eq_true rfl⟩) (pw_preV (va_recv hKc hPc (ci := 11) (q0 := 0) rfl rfl) hPc hKc hDc hN) rfl rfl hl.1 rfl (lv_room (Nat.le_of_ble_eq_true rfl)) dX11_parcel_2 ⟨Nat.le_of_ble_eq_true rfl, Nat.le_of_ble_eq_true rfl⟩)) (fun r1 hr1 => ?_)
  have hr1 : r1 = 1 := hr1
  subst hr1
  refine lv_if_eq (tgt := 10) hx hb dX11_parcel_5 (by decide) (fun c2 => ?_) (fun c2 => ?_)
  · exact absurd c2 (by decide)
  · skip
    refine lv_iconst (v := (-1)) hx hb dX11_parcel_8 (by decide) ?_
    exact W.iret (v := (-1)) hx hb hr (fun t ht hW => ⟨(-1), rfl, rfl, ht⟩) (fun q h => absurd h List.not_mem_nil) dX11_parcel_9
set_option maxHeartbeats 4000000 in
set_option maxRecDepth 100000 in
theorem c_X11_spend (l : Launch) (dC : Nat → ClassId) (dI : Nat → Nat → Nat)  (sz : Nat) (qm : Nat) (w0 : Value) (w1 : Value) (w2 : Value) (w3 : Value) (w4 : Value) (w5 : Value) (w6 : Value) (w7 : Value) (w8 : Value) (w9 : Value) (w10 : Value) (w11 : Value) (w12 : Value) (w13 : Value) (w14 : Value) (w15 : Value) (w16 : Value) (w17 : Value) (w18 : Value) (w19 : Value) (w20 : Value) (w21 : Value) (w22 : Value) (w23 : Value) (w25 : Value) (w26 : Value) (w27 : Value) (w28 : Value) (w29 : Value) (w30 : Value) (w31 : Value) (w32 : Value) (w33 : Value) (w34 : Value) (w35 : Value) (w36 : Value) (w37 : Value) (w38 : Value) (a0 : Int32) (a1 : Int32) (a2 : Int32)  : Met l yX11_spend wsX11_spend ({ frames := 2, cells := 0, slots := 0, locals := 60 }) (pw (dC, dI) [] [(qm, .inr (11, [w0, w1, w2, w3, w4, w5, w6, w7, w8, w9, w10, w11, w12, w13, w14, w15, w16, w17, w18, w19, w20, w21, w22, w23, .int 0, w25, w26, w27, w28, w29, w30, w31, w32, w33, w34, w35, w36, w37, w38]))] sz [.ref qm, .int a0, .int a1, .int a2]) (vp_Sl (fun r => r = (-9223372036854775808))) 0 0 (fun _ => False) := by
  refine pw_met (cc := cX11_spend) (maxL := 4) (ret := (some .long)) (by decide) rfl (Nat.le_of_ble_eq_true rfl) ?_
  intro p e s m below meth c0 hx hb hr hml hown hlocks hnm hts hP hK hD hN hsz hA hS ls hl
  have hl : lv_has ls 4 [(0, .ref qm), (1, .int a0), (2, .int a1), (3, .int a2)] := hl
  refine lv_aload_n hx hb dX11_spend_0 rfl (lv_at hl 0 rfl) ?_
  refine lv_iload_n hx hb dX11_spend_1 rfl (lv_at hl 1 rfl) ?_
  have hPc := hP.sub (ws' := [(qm, .inr (11, [w0, w1, w2, w3, w4, w5, w6, w7, w8, w9, w10, w11, w12, w13, w14, w15, w16, w17, w18, w19, w20, w21, w22, w23, .int 0, w25, w26, w27, w28, w29, w30, w31, w32, w33, w34, w35, w36, w37, w38]))]) [0] rfl
  have hDc := hD.sub (ws' := [(qm, .inr (11, [w0, w1, w2, w3, w4, w5, w6, w7, w8, w9, w10, w11, w12, w13, w14, w15, w16, w17, w18, w19, w20, w21, w22, w23, .int 0, w25, w26, w27, w28, w29, w30, w31, w32, w33, w34, w35, w36, w37, w38]))]) [0] (by decide) rfl
  have hKc := hK.sub (tys' := []) [] rfl
  refine vp_callSi (va_Run.run (va_runV (As := [.int a0]) (rest := []) ⟨hx, hb, hml, hown, hts⟩ (c_X11_noTake l dC dI  _ qm w0 w1 w2 w3 w4 w5 w6 w7 w8 w9 w10 w11 w12 w13 w14 w15 w16 w17 w18 w19 w20 w21 w22 w23 w25 w26 w27 w28 w29 w30 w31 w32 w33 w34 w35 w36 w37 w38 a0 ) (cwV 1 hts gX11_spend_X11_noTake rfl rfl rfl (by decide +kernel) ⟨Nat.le_of_ble_eq_true rfl, Nat.le_of_ble_eq_true rfl⟩) (pw_preV (va_recv hKc hPc (ci := 11) (q0 := 0) rfl rfl) hPc hKc hDc hN) rfl rfl hl.1 rfl (lv_room (Nat.le_of_ble_eq_true rfl)) dX11_spend_2 ⟨Nat.le_of_ble_eq_true rfl, Nat.le_of_ble_eq_true rfl⟩)) (fun r1 hr1 => ?_)
  have hr1 : r1 = 1 := hr1
  subst hr1
  refine lv_if_ne (tgt := 39) hx hb dX11_spend_5 (by decide) (fun c2 => ?_) (fun c2 => ?_)
  · skip
    refine vp_callSl (va_Run.run (va_runS (As := []) (rest := []) ⟨hx, hb, hml, hown, hts⟩ (c_X11_lost l  ) (va_cwS 0 hts gX11_spend_X11_lost rfl rfl rfl (by decide +kernel) ⟨Nat.le_of_ble_eq_true rfl, Nat.le_of_ble_eq_true rfl⟩) (p0_preS hN) rfl rfl hl.1 rfl (lv_room (Nat.le_of_ble_eq_true rfl)) dX11_spend_39 ⟨Nat.le_of_ble_eq_true rfl, Nat.le_of_ble_eq_true rfl⟩)) (fun r3 hr3 => ?_)
    have hr3 : r3 = (-9223372036854775808) := hr3
    subst hr3
    exact W.lret (v := (-9223372036854775808)) hx hb hr (fun t ht hW => ⟨(-9223372036854775808), rfl, rfl, ht⟩) (fun q h => absurd h List.not_mem_nil) dX11_spend_42
  · exact absurd c2 (by decide)
set_option maxHeartbeats 4000000 in
set_option maxRecDepth 100000 in
theorem c_X11_settle (l : Launch) (dC : Nat → ClassId) (dI : Nat → Nat → Nat)  (sz : Nat) (qm : Nat) (w0 : Value) (w1 : Value) (w2 : Value) (w3 : Value) (w4 : Value) (w5 : Value) (w6 : Value) (w7 : Value) (w8 : Value) (w9 : Value) (w10 : Value) (w11 : Value) (w12 : Value) (w13 : Value) (w14 : Value) (w15 : Value) (w16 : Value) (w17 : Value) (w18 : Value) (w19 : Value) (w20 : Value) (w21 : Value) (w22 : Value) (w23 : Value) (w25 : Value) (w26 : Value) (w27 : Value) (w28 : Value) (w29 : Value) (w30 : Value) (w31 : Value) (w32 : Value) (w33 : Value) (w34 : Value) (w35 : Value) (w36 : Value) (w37 : Value) (w38 : Value) (a0 : Int32)  : Met l yX11_settle wsX11_settle ({ frames := 2, cells := 0, slots := 0, locals := 60 }) (pw (dC, dI) [] [(qm, .inr (11, [w0, w1, w2, w3, w4, w5, w6, w7, w8, w9, w10, w11, w12, w13, w14, w15, w16, w17, w18, w19, w20, w21, w22, w23, .int 0, w25, w26, w27, w28, w29, w30, w31, w32, w33, w34, w35, w36, w37, w38]))] sz [.ref qm, .int a0]) (vp_Sl (fun r => r = (-9223372036854775808))) 0 0 (fun _ => False) := by
  refine pw_met (cc := cX11_settle) (maxL := 7) (ret := (some .long)) (by decide) rfl (Nat.le_of_ble_eq_true rfl) ?_
  intro p e s m below meth c0 hx hb hr hml hown hlocks hnm hts hP hK hD hN hsz hA hS ls hl
  have hl : lv_has ls 7 [(0, .ref qm), (1, .int a0)] := hl
  refine lv_aload_n hx hb dX11_settle_0 rfl (lv_at hl 0 rfl) ?_
  refine lv_iload_n hx hb dX11_settle_1 rfl (lv_at hl 1 rfl) ?_
  have hPc := hP.sub (ws' := [(qm, .inr (11, [w0, w1, w2, w3, w4, w5, w6, w7, w8, w9, w10, w11, w12, w13, w14, w15, w16, w17, w18, w19, w20, w21, w22, w23, .int 0, w25, w26, w27, w28, w29, w30, w31, w32, w33, w34, w35, w36, w37, w38]))]) [0] rfl
  have hDc := hD.sub (ws' := [(qm, .inr (11, [w0, w1, w2, w3, w4, w5, w6, w7, w8, w9, w10, w11, w12, w13, w14, w15, w16, w17, w18, w19, w20, w21, w22, w23, .int 0, w25, w26, w27, w28, w29, w30, w31, w32, w33, w34, w35, w36, w37, w38]))]) [0] (by decide) rfl
  have hKc := hK.sub (tys' := []) [] rfl
  refine vp_callSi (va_Run.run (va_runV (As := [.int a0]) (rest := []) ⟨hx, hb, hml, hown, hts⟩ (c_X11_noTake l dC dI  _ qm w0 w1 w2 w3 w4 w5 w6 w7 w8 w9 w10 w11 w12 w13 w14 w15 w16 w17 w18 w19 w20 w21 w22 w23 w25 w26 w27 w28 w29 w30 w31 w32 w33 w34 w35 w36 w37 w38 a0 ) (cwV 1 hts gX11_settle_X11_noTake rfl rfl rfl (by decide +kernel) ⟨Nat.le_of_ble_eq_true rfl, Nat.le_of_ble_eq_true rfl⟩) (pw_preV (va_recv hKc hPc (ci := 11) (q0 := 0) rfl rfl) hPc hKc hDc hN) rfl rfl hl.1 rfl (lv_room (Nat.le_of_ble_eq_true rfl)) dX11_settle_2 ⟨Nat.le_of_ble_eq_true rfl, Nat.le_of_ble_eq_true rfl⟩)) (fun r1 hr1 => ?_)
  have hr1 : r1 = 1 := hr1
  subst hr1
  refine lv_if_ne (tgt := 17) hx hb dX11_settle_5 (by decide) (fun c2 => ?_) (fun c2 => ?_)
  · skip
    refine vp_callSl (va_Run.run (va_runS (As := []) (rest := []) ⟨hx, hb, hml, hown, hts⟩ (c_X11_lost l  ) (va_cwS 0 hts gX11_settle_X11_lost rfl rfl rfl (by decide +kernel) ⟨Nat.le_of_ble_eq_true rfl, Nat.le_of_ble_eq_true rfl⟩) (p0_preS hN) rfl rfl hl.1 rfl (lv_room (Nat.le_of_ble_eq_true rfl)) dX11_settle_17 ⟨Nat.le_of_ble_eq_true rfl, Nat.le_of_ble_eq_true rfl⟩)) (fun r3 hr3 => ?_)
    have hr3 : r3 = (-9223372036854775808) := hr3
    subst hr3
    exact W.lret (v := (-9223372036854775808)) hx hb hr (fun t ht hW => ⟨(-9223372036854775808), rfl, rfl, ht⟩) (fun q h => absurd h List.not_mem_nil) dX11_settle_20
  · exact absurd c2 (by decide)
set_option maxHeartbeats 4000000 in
set_option maxRecDepth 100000 in
theorem c_X11_taken (l : Launch) (dC : Nat → ClassId) (dI : Nat → Nat → Nat)  (sz : Nat) (qm : Nat) (w0 : Value) (w1 : Value) (w2 : Value) (w3 : Value) (w4 : Value) (w5 : Value) (w6 : Value) (w7 : Value) (w8 : Value) (w9 : Value) (w10 : Value) (w11 : Value) (w12 : Value) (w13 : Value) (w14 : Value) (w15 : Value) (w16 : Value) (w17 : Value) (w18 : Value) (w19 : Value) (w20 : Value) (w21 : Value) (w22 : Value) (w23 : Value) (w25 : Value) (w26 : Value) (w27 : Value) (w28 : Value) (w29 : Value) (w30 : Value) (w31 : Value) (w32 : Value) (w33 : Value) (w34 : Value) (w35 : Value) (w36 : Value) (w37 : Value) (w38 : Value) (a0 : Int32) (a1 : Int32)  : Met l yX11_taken wsX11_taken ({ frames := 2, cells := 0, slots := 0, locals := 60 }) (pw (dC, dI) [] [(qm, .inr (11, [w0, w1, w2, w3, w4, w5, w6, w7, w8, w9, w10, w11, w12, w13, w14, w15, w16, w17, w18, w19, w20, w21, w22, w23, .int 0, w25, w26, w27, w28, w29, w30, w31, w32, w33, w34, w35, w36, w37, w38]))] sz [.ref qm, .int a0, .int a1]) (vp_Si (fun r => r = -1)) 0 0 (fun _ => False) := by
  refine pw_met (cc := cX11_taken) (maxL := 3) (ret := (some .int)) (by decide) rfl (Nat.le_of_ble_eq_true rfl) ?_
  intro p e s m below meth c0 hx hb hr hml hown hlocks hnm hts hP hK hD hN hsz hA hS ls hl
  have hl : lv_has ls 3 [(0, .ref qm), (1, .int a0), (2, .int a1)] := hl
  refine lv_aload_n hx hb dX11_taken_0 rfl (lv_at hl 0 rfl) ?_
  refine lv_iload_n hx hb dX11_taken_1 rfl (lv_at hl 1 rfl) ?_
  have hPc := hP.sub (ws' := [(qm, .inr (11, [w0, w1, w2, w3, w4, w5, w6, w7, w8, w9, w10, w11, w12, w13, w14, w15, w16, w17, w18, w19, w20, w21, w22, w23, .int 0, w25, w26, w27, w28, w29, w30, w31, w32, w33, w34, w35, w36, w37, w38]))]) [0] rfl
  have hDc := hD.sub (ws' := [(qm, .inr (11, [w0, w1, w2, w3, w4, w5, w6, w7, w8, w9, w10, w11, w12, w13, w14, w15, w16, w17, w18, w19, w20, w21, w22, w23, .int 0, w25, w26, w27, w28, w29, w30, w31, w32, w33, w34, w35, w36, w37, w38]))]) [0] (by decide) rfl
  have hKc := hK.sub (tys' := []) [] rfl
  refine vp_callSi (va_Run.run (va_runV (As := [.int a0]) (rest := []) ⟨hx, hb, hml, hown, hts⟩ (c_X11_noTake l dC dI  _ qm w0 w1 w2 w3 w4 w5 w6 w7 w8 w9 w10 w11 w12 w13 w14 w15 w16 w17 w18 w19 w20 w21 w22 w23 w25 w26 w27 w28 w29 w30 w31 w32 w33 w34 w35 w36 w37 w38 a0 ) (cwV 1 hts gX11_taken_X11_noTake rfl rfl rfl (by decide +kernel) ⟨Nat.le_of_ble_eq_true rfl, Nat.le_of_ble_eq_true rfl⟩) (pw_preV (va_recv hKc hPc (ci := 11) (q0 := 0) rfl rfl) hPc hKc hDc hN) rfl rfl hl.1 rfl (lv_room (Nat.le_of_ble_eq_true rfl)) dX11_taken_2 ⟨Nat.le_of_ble_eq_true rfl, Nat.le_of_ble_eq_true rfl⟩)) (fun r1 hr1 => ?_)
  have hr1 : r1 = 1 := hr1
  subst hr1
  refine lv_if_eq (tgt := 10) hx hb dX11_taken_5 (by decide) (fun c2 => ?_) (fun c2 => ?_)
  · exact absurd c2 (by decide)
  · skip
    refine lv_iconst (v := (-1)) hx hb dX11_taken_8 (by decide) ?_
    exact W.iret (v := (-1)) hx hb hr (fun t ht hW => ⟨(-1), rfl, rfl, ht⟩) (fun q h => absurd h List.not_mem_nil) dX11_taken_9
set_option maxHeartbeats 4000000 in
set_option maxRecDepth 100000 in
theorem c_X11_money (l : Launch) (dC : Nat → ClassId) (dI : Nat → Nat → Nat)  (sz : Nat) (qm : Nat) (w0 : Value) (w1 : Value) (w2 : Value) (w3 : Value) (w4 : Value) (w5 : Value) (w6 : Value) (w7 : Value) (w8 : Value) (w9 : Value) (w10 : Value) (w11 : Value) (w12 : Value) (w13 : Value) (w14 : Value) (w15 : Value) (w16 : Value) (w17 : Value) (w18 : Value) (w19 : Value) (w20 : Value) (w21 : Value) (w22 : Value) (w23 : Value) (w25 : Value) (w26 : Value) (w27 : Value) (w28 : Value) (w29 : Value) (w30 : Value) (w31 : Value) (w32 : Value) (w33 : Value) (w34 : Value) (w35 : Value) (w36 : Value) (w37 : Value) (w38 : Value) (a0 : Int32) (a1 : Int32)  : Met l yX11_money wsX11_money ({ frames := 2, cells := 0, slots := 0, locals := 60 }) (pw (dC, dI) [] [(qm, .inr (11, [w0, w1, w2, w3, w4, w5, w6, w7, w8, w9, w10, w11, w12, w13, w14, w15, w16, w17, w18, w19, w20, w21, w22, w23, .int 0, w25, w26, w27, w28, w29, w30, w31, w32, w33, w34, w35, w36, w37, w38]))] sz [.ref qm, .int a0, .int a1]) (vp_Sl (fun r => r = (-9223372036854775808))) 0 0 (fun _ => False) := by
  refine pw_met (cc := cX11_money) (maxL := 3) (ret := (some .long)) (by decide) rfl (Nat.le_of_ble_eq_true rfl) ?_
  intro p e s m below meth c0 hx hb hr hml hown hlocks hnm hts hP hK hD hN hsz hA hS ls hl
  have hl : lv_has ls 3 [(0, .ref qm), (1, .int a0), (2, .int a1)] := hl
  refine lv_aload_n hx hb dX11_money_0 rfl (lv_at hl 0 rfl) ?_
  refine lv_iload_n hx hb dX11_money_1 rfl (lv_at hl 1 rfl) ?_
  have hPc := hP.sub (ws' := [(qm, .inr (11, [w0, w1, w2, w3, w4, w5, w6, w7, w8, w9, w10, w11, w12, w13, w14, w15, w16, w17, w18, w19, w20, w21, w22, w23, .int 0, w25, w26, w27, w28, w29, w30, w31, w32, w33, w34, w35, w36, w37, w38]))]) [0] rfl
  have hDc := hD.sub (ws' := [(qm, .inr (11, [w0, w1, w2, w3, w4, w5, w6, w7, w8, w9, w10, w11, w12, w13, w14, w15, w16, w17, w18, w19, w20, w21, w22, w23, .int 0, w25, w26, w27, w28, w29, w30, w31, w32, w33, w34, w35, w36, w37, w38]))]) [0] (by decide) rfl
  have hKc := hK.sub (tys' := []) [] rfl
  refine vp_callSi (va_Run.run (va_runV (As := [.int a0]) (rest := []) ⟨hx, hb, hml, hown, hts⟩ (c_X11_noTake l dC dI  _ qm w0 w1 w2 w3 w4 w5 w6 w7 w8 w9 w10 w11 w12 w13 w14 w15 w16 w17 w18 w19 w20 w21 w22 w23 w25 w26 w27 w28 w29 w30 w31 w32 w33 w34 w35 w36 w37 w38 a0 ) (cwV 1 hts gX11_money_X11_noTake rfl rfl rfl (by decide +kernel) ⟨Nat.le_of_ble_eq_true rfl, Nat.le_of_ble_eq_true rfl⟩) (pw_preV (va_recv hKc hPc (ci := 11) (q0 := 0) rfl rfl) hPc hKc hDc hN) rfl rfl hl.1 rfl (lv_room (Nat.le_of_ble_eq_true rfl)) dX11_money_2 ⟨Nat.le_of_ble_eq_true rfl, Nat.le_of_ble_eq_true rfl⟩)) (fun r1 hr1 => ?_)
  have hr1 : r1 = 1 := hr1
  subst hr1
  refine lv_if_eq (tgt := 12) hx hb dX11_money_5 (by decide) (fun c2 => ?_) (fun c2 => ?_)
  · exact absurd c2 (by decide)
  · skip
    refine vp_callSl (va_Run.run (va_runS (As := []) (rest := []) ⟨hx, hb, hml, hown, hts⟩ (c_X11_lost l  ) (va_cwS 0 hts gX11_money_X11_lost rfl rfl rfl (by decide +kernel) ⟨Nat.le_of_ble_eq_true rfl, Nat.le_of_ble_eq_true rfl⟩) (p0_preS hN) rfl rfl hl.1 rfl (lv_room (Nat.le_of_ble_eq_true rfl)) dX11_money_8 ⟨Nat.le_of_ble_eq_true rfl, Nat.le_of_ble_eq_true rfl⟩)) (fun r3 hr3 => ?_)
    have hr3 : r3 = (-9223372036854775808) := hr3
    subst hr3
    exact W.lret (v := (-9223372036854775808)) hx hb hr (fun t ht hW => ⟨(-9223372036854775808), rfl, rfl, ht⟩) (fun q h => absurd h List.not_mem_nil) dX11_money_11
set_option maxHeartbeats 4000000 in
set_option maxRecDepth 100000 in
theorem c_X11_debt (l : Launch) (dC : Nat → ClassId) (dI : Nat → Nat → Nat)  (sz : Nat) (qm : Nat) (w0 : Value) (w1 : Value) (w2 : Value) (w3 : Value) (w4 : Value) (w5 : Value) (w6 : Value) (w7 : Value) (w8 : Value) (w9 : Value) (w10 : Value) (w11 : Value) (w12 : Value) (w13 : Value) (w14 : Value) (w15 : Value) (w16 : Value) (w18 : Value) (w19 : Value) (w20 : Value) (w21 : Value) (w22 : Value) (w23 : Value) (w24 : Value) (w25 : Value) (w26 : Value) (w27 : Value) (w28 : Value) (w29 : Value) (w30 : Value) (w31 : Value) (w32 : Value) (w33 : Value) (w34 : Value) (w35 : Value) (w36 : Value) (w37 : Value) (w38 : Value) (a0 : Int32)  : Met l yX11_debt wsX11_debt ({ frames := 2, cells := 0, slots := 0, locals := 60 }) (pw (dC, dI) [] [(qm, .inr (11, [w0, w1, w2, w3, w4, w5, w6, w7, w8, w9, w10, w11, w12, w13, w14, w15, w16, .int 0, w18, w19, w20, w21, w22, w23, w24, w25, w26, w27, w28, w29, w30, w31, w32, w33, w34, w35, w36, w37, w38]))] sz [.ref qm, .int a0]) (vp_Sl (fun r => r = (-9223372036854775808))) 0 0 (fun _ => False) := by
  refine pw_met (cc := cX11_debt) (maxL := 2) (ret := (some .long)) (by decide) rfl (Nat.le_of_ble_eq_true rfl) ?_
  intro p e s m below meth c0 hx hb hr hml hown hlocks hnm hts hP hK hD hN hsz hA hS ls hl
  have hl : lv_has ls 2 [(0, .ref qm), (1, .int a0)] := hl
  refine lv_aload_n hx hb dX11_debt_0 rfl (lv_at hl 0 rfl) ?_
  refine lv_iload_n hx hb dX11_debt_1 rfl (lv_at hl 1 rfl) ?_
  have hPc := hP.sub (ws' := [(qm, .inr (11, [w0, w1, w2, w3, w4, w5, w6, w7, w8, w9, w10, w11, w12, w13, w14, w15, w16, .int 0, w18, w19, w20, w21, w22, w23, w24, w25, w26, w27, w28, w29, w30, w31, w32, w33, w34, w35, w36, w37, w38]))]) [0] rfl
  have hDc := hD.sub (ws' := [(qm, .inr (11, [w0, w1, w2, w3, w4, w5, w6, w7, w8, w9, w10, w11, w12, w13, w14, w15, w16, .int 0, w18, w19, w20, w21, w22, w23, w24, w25, w26, w27, w28, w29, w30, w31, w32, w33, w34, w35, w36, w37, w38]))]) [0] (by decide) rfl
  have hKc := hK.sub (tys' := []) [] rfl
  refine vp_callSi (va_Run.run (va_runV (As := [.int a0]) (rest := []) ⟨hx, hb, hml, hown, hts⟩ (c_X11_noGang l dC dI  _ qm w0 w1 w2 w3 w4 w5 w6 w7 w8 w9 w10 w11 w12 w13 w14 w15 w16 w18 w19 w20 w21 w22 w23 w24 w25 w26 w27 w28 w29 w30 w31 w32 w33 w34 w35 w36 w37 w38 a0 ) (cwV 1 hts gX11_debt_X11_noGang rfl rfl rfl (by decide +kernel) ⟨Nat.le_of_ble_eq_true rfl, Nat.le_of_ble_eq_true rfl⟩) (pw_preV (va_recv hKc hPc (ci := 11) (q0 := 0) rfl rfl) hPc hKc hDc hN) rfl rfl hl.1 rfl (lv_room (Nat.le_of_ble_eq_true rfl)) dX11_debt_2 ⟨Nat.le_of_ble_eq_true rfl, Nat.le_of_ble_eq_true rfl⟩)) (fun r1 hr1 => ?_)
  have hr1 : r1 = 1 := hr1
  subst hr1
  refine lv_if_eq (tgt := 14) hx hb dX11_debt_5 (by decide) (fun c2 => ?_) (fun c2 => ?_)
  · exact absurd c2 (by decide)
  · skip
    refine vp_callSl (va_Run.run (va_runS (As := []) (rest := []) ⟨hx, hb, hml, hown, hts⟩ (c_X11_lost l  ) (va_cwS 0 hts gX11_debt_X11_lost rfl rfl rfl (by decide +kernel) ⟨Nat.le_of_ble_eq_true rfl, Nat.le_of_ble_eq_true rfl⟩) (p0_preS hN) rfl rfl hl.1 rfl (lv_room (Nat.le_of_ble_eq_true rfl)) dX11_debt_8 ⟨Nat.le_of_ble_eq_true rfl, Nat.le_of_ble_eq_true rfl⟩)) (fun r3 hr3 => ?_)
    have hr3 : r3 = (-9223372036854775808) := hr3
    subst hr3
    refine lv_goto (tgt := 20) hx hb dX11_debt_11 (by decide) ?_
    exact W.lret (v := (-9223372036854775808)) hx hb hr (fun t ht hW => ⟨(-9223372036854775808), rfl, rfl, ht⟩) (fun q h => absurd h List.not_mem_nil) dX11_debt_20
set_option maxHeartbeats 4000000 in
set_option maxRecDepth 100000 in
theorem c_X11_suspects (l : Launch) (dC : Nat → ClassId) (dI : Nat → Nat → Nat)  (sz : Nat) (qm : Nat) (w0 : Value) (w1 : Value) (w2 : Value) (w3 : Value) (w4 : Value) (w5 : Value) (w6 : Value) (w7 : Value) (w8 : Value) (w9 : Value) (w10 : Value) (w11 : Value) (w12 : Value) (w13 : Value) (w14 : Value) (w15 : Value) (w16 : Value) (w17 : Value) (w18 : Value) (w19 : Value) (w20 : Value) (w21 : Value) (w22 : Value) (w23 : Value) (w24 : Value) (w25 : Value) (w26 : Value) (w27 : Value) (w28 : Value) (w29 : Value) (w30 : Value) (w31 : Value) (w32 : Value) (w33 : Value) (w35 : Value) (w36 : Value) (w37 : Value) (w38 : Value)  : Met l yX11_suspects wsX11_suspects ({ frames := 2, cells := 0, slots := 0, locals := 60 }) (pw (dC, dI) [] [(qm, .inr (11, [w0, w1, w2, w3, w4, w5, w6, w7, w8, w9, w10, w11, w12, w13, w14, w15, w16, w17, w18, w19, w20, w21, w22, w23, w24, w25, w26, w27, w28, w29, w30, w31, w32, w33, .int 0, w35, w36, w37, w38]))] sz [.ref qm]) (vp_Si (fun r => r = 0)) 0 0 (fun _ => False) := by
  refine pw_met (cc := cX11_suspects) (maxL := 3) (ret := (some .int)) (by decide) rfl (Nat.le_of_ble_eq_true rfl) ?_
  intro p e s m below meth c0 hx hb hr hml hown hlocks hnm hts hP hK hD hN hsz hA hS ls hl
  have hl : lv_has ls 3 [(0, .ref qm)] := hl
  have hiX11 : ∀ w ∈ wsX110, w ∈ wsX11_suspects := by decide +kernel
  refine lv_iconst (v := 0) hx hb dX11_suspects_0 (by decide) ?_
  refine lv_istore_n (lv' := [(1, .int 0), (0, .ref qm)]) hx hb dX11_suspects_1 rfl hl (by decide) rfl (fun ls hl => ?_)
  refine lv_iconst (v := 0) hx hb dX11_suspects_2 (by decide) ?_
  refine lv_istore_n (lv' := [(2, .int 0), (1, .int 0), (0, .ref qm)]) hx hb dX11_suspects_3 rfl hl (by decide) rfl (fun ls hl => ?_)
  refine lv_iload_n hx hb dX11_suspects_4 rfl (lv_at hl 0 rfl) ?_
  refine lv_aload_n hx hb dX11_suspects_5 rfl (lv_at hl 2 rfl) ?_
  refine va_get (D := (dC, dI)) (ci := 11) (v := .int 0) (C := RX11) (T := TX11) (N := 39) hx hb hts hiX11 hown hK hP 0 rfl rfl 34 (by decide) (hts (.fieldLink RX11 217 "TributePitchesModel" "parcels" "I") (by decide +kernel)) (fun _ h9 => h9) rfl dX11_suspects_6 ?_
  refine lv_icmp_ge (tgt := 34) hx hb dX11_suspects_9 (by decide) (fun c1 => ?_) (fun c1 => ?_)
  · skip
    refine lv_iload_n hx hb dX11_suspects_34 rfl (lv_at hl 1 rfl) ?_
    exact W.iret (v := 0) hx hb hr (fun t ht hW => ⟨0, rfl, rfl, ht⟩) (fun q h => absurd h List.not_mem_nil) dX11_suspects_35
  · exact absurd c1 (by decide)
set_option maxHeartbeats 4000000 in
set_option maxRecDepth 100000 in
theorem c_X11_suspect (l : Launch) (dC : Nat → ClassId) (dI : Nat → Nat → Nat)  (sz : Nat) (qm : Nat) (w0 : Value) (w1 : Value) (w2 : Value) (w3 : Value) (w4 : Value) (w5 : Value) (w6 : Value) (w7 : Value) (w8 : Value) (w9 : Value) (w10 : Value) (w11 : Value) (w12 : Value) (w13 : Value) (w14 : Value) (w15 : Value) (w16 : Value) (w17 : Value) (w18 : Value) (w19 : Value) (w20 : Value) (w21 : Value) (w22 : Value) (w23 : Value) (w24 : Value) (w25 : Value) (w26 : Value) (w27 : Value) (w28 : Value) (w29 : Value) (w30 : Value) (w31 : Value) (w32 : Value) (w33 : Value) (w35 : Value) (w36 : Value) (w37 : Value) (w38 : Value) (a0 : Int32)  : Met l yX11_suspect wsX11_suspect ({ frames := 2, cells := 0, slots := 0, locals := 60 }) (pw (dC, dI) [] [(qm, .inr (11, [w0, w1, w2, w3, w4, w5, w6, w7, w8, w9, w10, w11, w12, w13, w14, w15, w16, w17, w18, w19, w20, w21, w22, w23, w24, w25, w26, w27, w28, w29, w30, w31, w32, w33, .int 0, w35, w36, w37, w38]))] sz [.ref qm, .int a0]) (vp_Si (fun r => r = -1)) 0 0 (fun _ => False) := by
  refine pw_met (cc := cX11_suspect) (maxL := 4) (ret := (some .int)) (by decide) rfl (Nat.le_of_ble_eq_true rfl) ?_
  intro p e s m below meth c0 hx hb hr hml hown hlocks hnm hts hP hK hD hN hsz hA hS ls hl
  have hl : lv_has ls 4 [(0, .ref qm), (1, .int a0)] := hl
  have hiX11 : ∀ w ∈ wsX110, w ∈ wsX11_suspect := by decide +kernel
  refine lv_iconst (v := 0) hx hb dX11_suspect_0 (by decide) ?_
  refine lv_istore_n (lv' := [(2, .int 0), (0, .ref qm), (1, .int a0)]) hx hb dX11_suspect_1 rfl hl (by decide) rfl (fun ls hl => ?_)
  refine lv_iconst (v := 0) hx hb dX11_suspect_2 (by decide) ?_
  refine lv_istore_n (lv' := [(3, .int 0), (2, .int 0), (0, .ref qm), (1, .int a0)]) hx hb dX11_suspect_3 rfl hl (by decide) rfl (fun ls hl => ?_)
  refine lv_iload_n hx hb dX11_suspect_4 rfl (lv_at hl 0 rfl) ?_
  refine lv_aload_n hx hb dX11_suspect_5 rfl (lv_at hl 2 rfl) ?_
  refine va_get (D := (dC, dI)) (ci := 11) (v := .int 0) (C := RX11) (T := TX11) (N := 39) hx hb hts hiX11 hown hK hP 0 rfl rfl 34 (by decide) (hts (.fieldLink RX11 217 "TributePitchesModel" "parcels" "I") (by decide +kernel)) (fun _ h9 => h9) rfl dX11_suspect_6 ?_
  refine lv_icmp_ge (tgt := 36) hx hb dX11_suspect_9 (by decide) (fun c1 => ?_) (fun c1 => ?_)
  · skip
    refine lv_iconst (v := (-1)) hx hb dX11_suspect_36 (by decide) ?_
    exact W.iret (v := (-1)) hx hb hr (fun t ht hW => ⟨(-1), rfl, rfl, ht⟩) (fun q h => absurd h List.not_mem_nil) dX11_suspect_37
  · exact absurd c1 (by decide)
set_option maxHeartbeats 4000000 in
set_option maxRecDepth 100000 in
theorem c_X11_skill (l : Launch) (dC : Nat → ClassId) (dI : Nat → Nat → Nat)  (sz : Nat) (qm : Nat) (w0 : Value) (w1 : Value) (w2 : Value) (w3 : Value) (w4 : Value) (w5 : Value) (w6 : Value) (w7 : Value) (w8 : Value) (w9 : Value) (w10 : Value) (w11 : Value) (w12 : Value) (w13 : Value) (w14 : Value) (w15 : Value) (w16 : Value) (w18 : Value) (w19 : Value) (w20 : Value) (w21 : Value) (w22 : Value) (w23 : Value) (w24 : Value) (w25 : Value) (w26 : Value) (w27 : Value) (w28 : Value) (w29 : Value) (w30 : Value) (w31 : Value) (w32 : Value) (w33 : Value) (w34 : Value) (w35 : Value) (w36 : Value) (w37 : Value) (w38 : Value) (a0 : Int32) (a1 : Int32)  : Met l yX11_skill wsX11_skill ({ frames := 2, cells := 0, slots := 0, locals := 60 }) (pw (dC, dI) [] [(qm, .inr (11, [w0, w1, w2, w3, w4, w5, w6, w7, w8, w9, w10, w11, w12, w13, w14, w15, w16, .int 0, w18, w19, w20, w21, w22, w23, w24, w25, w26, w27, w28, w29, w30, w31, w32, w33, w34, w35, w36, w37, w38]))] sz [.ref qm, .int a0, .int a1]) (vp_Sl (fun r => r = (-9223372036854775808))) 0 0 (fun _ => False) := by
  refine pw_met (cc := cX11_skill) (maxL := 10) (ret := (some .long)) (by decide) rfl (Nat.le_of_ble_eq_true rfl) ?_
  intro p e s m below meth c0 hx hb hr hml hown hlocks hnm hts hP hK hD hN hsz hA hS ls hl
  have hl : lv_has ls 10 [(0, .ref qm), (1, .int a0), (2, .int a1)] := hl
  refine lv_aload_n hx hb dX11_skill_0 rfl (lv_at hl 0 rfl) ?_
  refine lv_iload_n hx hb dX11_skill_1 rfl (lv_at hl 1 rfl) ?_
  have hPc := hP.sub (ws' := [(qm, .inr (11, [w0, w1, w2, w3, w4, w5, w6, w7, w8, w9, w10, w11, w12, w13, w14, w15, w16, .int 0, w18, w19, w20, w21, w22, w23, w24, w25, w26, w27, w28, w29, w30, w31, w32, w33, w34, w35, w36, w37, w38]))]) [0] rfl
  have hDc := hD.sub (ws' := [(qm, .inr (11, [w0, w1, w2, w3, w4, w5, w6, w7, w8, w9, w10, w11, w12, w13, w14, w15, w16, .int 0, w18, w19, w20, w21, w22, w23, w24, w25, w26, w27, w28, w29, w30, w31, w32, w33, w34, w35, w36, w37, w38]))]) [0] (by decide) rfl
  have hKc := hK.sub (tys' := []) [] rfl
  refine vp_callSi (va_Run.run (va_runV (As := [.int a0]) (rest := []) ⟨hx, hb, hml, hown, hts⟩ (c_X11_noGang l dC dI  _ qm w0 w1 w2 w3 w4 w5 w6 w7 w8 w9 w10 w11 w12 w13 w14 w15 w16 w18 w19 w20 w21 w22 w23 w24 w25 w26 w27 w28 w29 w30 w31 w32 w33 w34 w35 w36 w37 w38 a0 ) (cwV 1 hts gX11_skill_X11_noGang rfl rfl rfl (by decide +kernel) ⟨Nat.le_of_ble_eq_true rfl, Nat.le_of_ble_eq_true rfl⟩) (pw_preV (va_recv hKc hPc (ci := 11) (q0 := 0) rfl rfl) hPc hKc hDc hN) rfl rfl hl.1 rfl (lv_room (Nat.le_of_ble_eq_true rfl)) dX11_skill_2 ⟨Nat.le_of_ble_eq_true rfl, Nat.le_of_ble_eq_true rfl⟩)) (fun r1 hr1 => ?_)
  have hr1 : r1 = 1 := hr1
  subst hr1
  refine lv_if_ne (tgt := 18) hx hb dX11_skill_5 (by decide) (fun c2 => ?_) (fun c2 => ?_)
  · skip
    refine vp_callSl (va_Run.run (va_runS (As := []) (rest := []) ⟨hx, hb, hml, hown, hts⟩ (c_X11_lost l  ) (va_cwS 0 hts gX11_skill_X11_lost rfl rfl rfl (by decide +kernel) ⟨Nat.le_of_ble_eq_true rfl, Nat.le_of_ble_eq_true rfl⟩) (p0_preS hN) rfl rfl hl.1 rfl (lv_room (Nat.le_of_ble_eq_true rfl)) dX11_skill_18 ⟨Nat.le_of_ble_eq_true rfl, Nat.le_of_ble_eq_true rfl⟩)) (fun r3 hr3 => ?_)
    have hr3 : r3 = (-9223372036854775808) := hr3
    subst hr3
    exact W.lret (v := (-9223372036854775808)) hx hb hr (fun t ht hW => ⟨(-9223372036854775808), rfl, rfl, ht⟩) (fun q h => absurd h List.not_mem_nil) dX11_skill_21
  · exact absurd c2 (by decide)
set_option maxHeartbeats 4000000 in
set_option maxRecDepth 100000 in
theorem c_X11_tell (l : Launch) (dC : Nat → ClassId) (dI : Nat → Nat → Nat)  (sz : Nat) (qm : Nat) (w0 : Value) (w1 : Value) (w2 : Value) (w3 : Value) (w4 : Value) (w5 : Value) (w6 : Value) (w7 : Value) (w8 : Value) (w9 : Value) (w10 : Value) (w11 : Value) (w12 : Value) (w13 : Value) (w14 : Value) (w15 : Value) (w16 : Value) (w18 : Value) (w19 : Value) (w20 : Value) (w21 : Value) (w22 : Value) (w23 : Value) (w24 : Value) (w25 : Value) (w26 : Value) (w27 : Value) (w28 : Value) (w29 : Value) (w30 : Value) (w31 : Value) (w32 : Value) (w33 : Value) (w34 : Value) (w35 : Value) (w36 : Value) (w37 : Value) (w38 : Value) (a0 : Int32)  : Met l yX11_tell wsX11_tell ({ frames := 2, cells := 0, slots := 0, locals := 60 }) (pw (dC, dI) [] [(qm, .inr (11, [w0, w1, w2, w3, w4, w5, w6, w7, w8, w9, w10, w11, w12, w13, w14, w15, w16, .int 0, w18, w19, w20, w21, w22, w23, w24, w25, w26, w27, w28, w29, w30, w31, w32, w33, w34, w35, w36, w37, w38]))] sz [.ref qm, .int a0]) (vp_Si (fun r => r = -1)) 0 0 (fun _ => False) := by
  refine pw_met (cc := cX11_tell) (maxL := 2) (ret := (some .int)) (by decide) rfl (Nat.le_of_ble_eq_true rfl) ?_
  intro p e s m below meth c0 hx hb hr hml hown hlocks hnm hts hP hK hD hN hsz hA hS ls hl
  have hl : lv_has ls 2 [(0, .ref qm), (1, .int a0)] := hl
  refine lv_aload_n hx hb dX11_tell_0 rfl (lv_at hl 0 rfl) ?_
  refine lv_iload_n hx hb dX11_tell_1 rfl (lv_at hl 1 rfl) ?_
  have hPc := hP.sub (ws' := [(qm, .inr (11, [w0, w1, w2, w3, w4, w5, w6, w7, w8, w9, w10, w11, w12, w13, w14, w15, w16, .int 0, w18, w19, w20, w21, w22, w23, w24, w25, w26, w27, w28, w29, w30, w31, w32, w33, w34, w35, w36, w37, w38]))]) [0] rfl
  have hDc := hD.sub (ws' := [(qm, .inr (11, [w0, w1, w2, w3, w4, w5, w6, w7, w8, w9, w10, w11, w12, w13, w14, w15, w16, .int 0, w18, w19, w20, w21, w22, w23, w24, w25, w26, w27, w28, w29, w30, w31, w32, w33, w34, w35, w36, w37, w38]))]) [0] (by decide) rfl
  have hKc := hK.sub (tys' := []) [] rfl
  refine vp_callSi (va_Run.run (va_runV (As := [.int a0]) (rest := []) ⟨hx, hb, hml, hown, hts⟩ (c_X11_noGang l dC dI  _ qm w0 w1 w2 w3 w4 w5 w6 w7 w8 w9 w10 w11 w12 w13 w14 w15 w16 w18 w19 w20 w21 w22 w23 w24 w25 w26 w27 w28 w29 w30 w31 w32 w33 w34 w35 w36 w37 w38 a0 ) (cwV 1 hts gX11_tell_X11_noGang rfl rfl rfl (by decide +kernel) ⟨Nat.le_of_ble_eq_true rfl, Nat.le_of_ble_eq_true rfl⟩) (pw_preV (va_recv hKc hPc (ci := 11) (q0 := 0) rfl rfl) hPc hKc hDc hN) rfl rfl hl.1 rfl (lv_room (Nat.le_of_ble_eq_true rfl)) dX11_tell_2 ⟨Nat.le_of_ble_eq_true rfl, Nat.le_of_ble_eq_true rfl⟩)) (fun r1 hr1 => ?_)
  have hr1 : r1 = 1 := hr1
  subst hr1
  refine lv_if_eq (tgt := 10) hx hb dX11_tell_5 (by decide) (fun c2 => ?_) (fun c2 => ?_)
  · exact absurd c2 (by decide)
  · skip
    refine lv_iconst (v := (-1)) hx hb dX11_tell_8 (by decide) ?_
    exact W.iret (v := (-1)) hx hb hr (fun t ht hW => ⟨(-1), rfl, rfl, ht⟩) (fun q h => absurd h List.not_mem_nil) dX11_tell_9
set_option maxHeartbeats 4000000 in
set_option maxRecDepth 100000 in
theorem c_X11_greet (l : Launch) (dC : Nat → ClassId) (dI : Nat → Nat → Nat)  (sz : Nat) (qm : Nat) (w0 : Value) (w1 : Value) (w2 : Value) (w3 : Value) (w4 : Value) (w5 : Value) (w6 : Value) (w7 : Value) (w8 : Value) (w9 : Value) (w10 : Value) (w11 : Value) (w12 : Value) (w13 : Value) (w14 : Value) (w15 : Value) (w16 : Value) (w18 : Value) (w19 : Value) (w20 : Value) (w21 : Value) (w22 : Value) (w23 : Value) (w24 : Value) (w25 : Value) (w26 : Value) (w27 : Value) (w28 : Value) (w29 : Value) (w30 : Value) (w31 : Value) (w32 : Value) (w33 : Value) (w34 : Value) (w35 : Value) (w36 : Value) (w37 : Value) (w38 : Value) (a0 : Int32)  : Met l yX11_greet wsX11_greet ({ frames := 2, cells := 0, slots := 0, locals := 60 }) (pw (dC, dI) [] [(qm, .inr (11, [w0, w1, w2, w3, w4, w5, w6, w7, w8, w9, w10, w11, w12, w13, w14, w15, w16, .int 0, w18, w19, w20, w21, w22, w23, w24, w25, w26, w27, w28, w29, w30, w31, w32, w33, w34, w35, w36, w37, w38]))] sz [.ref qm, .int a0]) (vp_Si (fun r => r = -1)) 0 0 (fun _ => False) := by
  refine pw_met (cc := cX11_greet) (maxL := 2) (ret := (some .int)) (by decide) rfl (Nat.le_of_ble_eq_true rfl) ?_
  intro p e s m below meth c0 hx hb hr hml hown hlocks hnm hts hP hK hD hN hsz hA hS ls hl
  have hl : lv_has ls 2 [(0, .ref qm), (1, .int a0)] := hl
  refine lv_aload_n hx hb dX11_greet_0 rfl (lv_at hl 0 rfl) ?_
  refine lv_iload_n hx hb dX11_greet_1 rfl (lv_at hl 1 rfl) ?_
  have hPc := hP.sub (ws' := [(qm, .inr (11, [w0, w1, w2, w3, w4, w5, w6, w7, w8, w9, w10, w11, w12, w13, w14, w15, w16, .int 0, w18, w19, w20, w21, w22, w23, w24, w25, w26, w27, w28, w29, w30, w31, w32, w33, w34, w35, w36, w37, w38]))]) [0] rfl
  have hDc := hD.sub (ws' := [(qm, .inr (11, [w0, w1, w2, w3, w4, w5, w6, w7, w8, w9, w10, w11, w12, w13, w14, w15, w16, .int 0, w18, w19, w20, w21, w22, w23, w24, w25, w26, w27, w28, w29, w30, w31, w32, w33, w34, w35, w36, w37, w38]))]) [0] (by decide) rfl
  have hKc := hK.sub (tys' := []) [] rfl
  refine vp_callSi (va_Run.run (va_runV (As := [.int a0]) (rest := []) ⟨hx, hb, hml, hown, hts⟩ (c_X11_noGang l dC dI  _ qm w0 w1 w2 w3 w4 w5 w6 w7 w8 w9 w10 w11 w12 w13 w14 w15 w16 w18 w19 w20 w21 w22 w23 w24 w25 w26 w27 w28 w29 w30 w31 w32 w33 w34 w35 w36 w37 w38 a0 ) (cwV 1 hts gX11_greet_X11_noGang rfl rfl rfl (by decide +kernel) ⟨Nat.le_of_ble_eq_true rfl, Nat.le_of_ble_eq_true rfl⟩) (pw_preV (va_recv hKc hPc (ci := 11) (q0 := 0) rfl rfl) hPc hKc hDc hN) rfl rfl hl.1 rfl (lv_room (Nat.le_of_ble_eq_true rfl)) dX11_greet_2 ⟨Nat.le_of_ble_eq_true rfl, Nat.le_of_ble_eq_true rfl⟩)) (fun r1 hr1 => ?_)
  have hr1 : r1 = 1 := hr1
  subst hr1
  refine lv_if_eq (tgt := 10) hx hb dX11_greet_5 (by decide) (fun c2 => ?_) (fun c2 => ?_)
  · exact absurd c2 (by decide)
  · skip
    refine lv_iconst (v := (-1)) hx hb dX11_greet_8 (by decide) ?_
    exact W.iret (v := (-1)) hx hb hr (fun t ht hW => ⟨(-1), rfl, rfl, ht⟩) (fun q h => absurd h List.not_mem_nil) dX11_greet_9
set_option maxHeartbeats 4000000 in
set_option maxRecDepth 100000 in
theorem c_X11_as (l : Launch) (dC : Nat → ClassId) (dI : Nat → Nat → Nat)  (sz : Nat) (qm : Nat) (w0 : Value) (w1 : Value) (w2 : Value) (w3 : Value) (w4 : Value) (w5 : Value) (w6 : Value) (w7 : Value) (w8 : Value) (w9 : Value) (w10 : Value) (w11 : Value) (w12 : Value) (w13 : Value) (w14 : Value) (w15 : Value) (w16 : Value) (w18 : Value) (w19 : Value) (w20 : Value) (w21 : Value) (w22 : Value) (w23 : Value) (w24 : Value) (w25 : Value) (w26 : Value) (w27 : Value) (w28 : Value) (w29 : Value) (w30 : Value) (w31 : Value) (w32 : Value) (w33 : Value) (w34 : Value) (w35 : Value) (w36 : Value) (w37 : Value) (w38 : Value) (a0 : Int32) (a1 : Int32)  : Met l yX11_as wsX11_as ({ frames := 2, cells := 0, slots := 0, locals := 60 }) (pw (dC, dI) [] [(qm, .inr (11, [w0, w1, w2, w3, w4, w5, w6, w7, w8, w9, w10, w11, w12, w13, w14, w15, w16, .int 0, w18, w19, w20, w21, w22, w23, w24, w25, w26, w27, w28, w29, w30, w31, w32, w33, w34, w35, w36, w37, w38]))] sz [.ref qm, .int a0, .int a1]) (va_Qi (fun r (_ : Unit) => r = -1) (fun _ _ => True) (va_A [(qm, .inr (11, [w0, w1, w2, w3, w4, w5, w6, w7, w8, w9, w10, w11, w12, w13, w14, w15, w16, .int 0, w18, w19, w20, w21, w22, w23, w24, w25, w26, w27, w28, w29, w30, w31, w32, w33, w34, w35, w36, w37, w38]))] sz)) 0 0 (va_A [(qm, .inr (11, [w0, w1, w2, w3, w4, w5, w6, w7, w8, w9, w10, w11, w12, w13, w14, w15, w16, .int 0, w18, w19, w20, w21, w22, w23, w24, w25, w26, w27, w28, w29, w30, w31, w32, w33, w34, w35, w36, w37, w38]))] sz) := by
  refine pw_met (cc := cX11_as) (maxL := 3) (ret := (some .int)) (by decide) rfl (Nat.le_of_ble_eq_true rfl) ?_
  intro p e s m below meth c0 hx hb hr hml hown hlocks hnm hts hP hK hD hN hsz hA hS ls hl
  subst hsz
  have hl : lv_has ls 3 [(0, .ref qm), (1, .int a0), (2, .int a1)] := hl
  refine lv_aload_n hx hb dX11_as_0 rfl (lv_at hl 0 rfl) ?_
  refine lv_iload_n hx hb dX11_as_1 rfl (lv_at hl 1 rfl) ?_
  have hPc := hP.sub (ws' := [(qm, .inr (11, [w0, w1, w2, w3, w4, w5, w6, w7, w8, w9, w10, w11, w12, w13, w14, w15, w16, .int 0, w18, w19, w20, w21, w22, w23, w24, w25, w26, w27, w28, w29, w30, w31, w32, w33, w34, w35, w36, w37, w38]))]) [0] rfl
  have hDc := hD.sub (ws' := [(qm, .inr (11, [w0, w1, w2, w3, w4, w5, w6, w7, w8, w9, w10, w11, w12, w13, w14, w15, w16, .int 0, w18, w19, w20, w21, w22, w23, w24, w25, w26, w27, w28, w29, w30, w31, w32, w33, w34, w35, w36, w37, w38]))]) [0] (by decide) rfl
  have hKc := hK.sub (tys' := []) [] rfl
  refine vp_callSi (va_Run.run (va_runV (As := [.int a0]) (rest := []) ⟨hx, hb, hml, hown, hts⟩ (c_X11_noGang l dC dI  _ qm w0 w1 w2 w3 w4 w5 w6 w7 w8 w9 w10 w11 w12 w13 w14 w15 w16 w18 w19 w20 w21 w22 w23 w24 w25 w26 w27 w28 w29 w30 w31 w32 w33 w34 w35 w36 w37 w38 a0 ) (cwV 1 hts gX11_as_X11_noGang rfl rfl rfl (by decide +kernel) ⟨Nat.le_of_ble_eq_true rfl, Nat.le_of_ble_eq_true rfl⟩) (pw_preV (va_recv hKc hPc (ci := 11) (q0 := 0) rfl rfl) hPc hKc hDc hN) rfl rfl hl.1 rfl (lv_room (Nat.le_of_ble_eq_true rfl)) dX11_as_2 ⟨Nat.le_of_ble_eq_true rfl, Nat.le_of_ble_eq_true rfl⟩)) (fun r1 hr1 => ?_)
  have hr1 : r1 = 1 := hr1
  subst hr1
  refine lv_if_eq (tgt := 14) hx hb dX11_as_5 (by decide) (fun c2 => ?_) (fun c2 => ?_)
  · exact absurd c2 (by decide)
  · skip
    refine lv_aload_n hx hb dX11_as_8 rfl (lv_at hl 0 rfl) ?_
    refine lv_iconst (v := (-1)) hx hb dX11_as_9 (by decide) ?_
    have hPc := hP.sub (ws' := [(qm, .inr (11, [w0, w1, w2, w3, w4, w5, w6, w7, w8, w9, w10, w11, w12, w13, w14, w15, w16, .int 0, w18, w19, w20, w21, w22, w23, w24, w25, w26, w27, w28, w29, w30, w31, w32, w33, w34, w35, w36, w37, w38]))]) [0] rfl
    have hDc := hD.sub (ws' := [(qm, .inr (11, [w0, w1, w2, w3, w4, w5, w6, w7, w8, w9, w10, w11, w12, w13, w14, w15, w16, .int 0, w18, w19, w20, w21, w22, w23, w24, w25, w26, w27, w28, w29, w30, w31, w32, w33, w34, w35, w36, w37, w38]))]) [0] (by decide) rfl
    have hKc := hK.sub (tys' := []) [] rfl
    have hFc := va_free (wc := [(qm, .inr (11, [w0, w1, w2, w3, w4, w5, w6, w7, w8, w9, w10, w11, w12, w13, w14, w15, w16, .int 0, w18, w19, w20, w21, w22, w23, w24, w25, w26, w27, w28, w29, w30, w31, w32, w33, w34, w35, w36, w37, w38]))]) hD hS hA [0] rfl
    refine va_calli (va_runV (As := [.int (-1)]) (rest := []) ⟨hx, hb, hml, hown, hts⟩ (c_X11_refused l dC dI  _ qm w0 w1 w2 w3 w4 w5 w6 w7 w8 w9 w10 w11 w12 w13 w14 w15 w16 (.int 0) w18 w19 w20 w21 w22 w23 w24 w25 w26 w27 w28 w29 w30 w31 w32 w33 w34 w35 w36 w37 w38 (-1) ) (cwV 1 hts gX11_as_X11_refused rfl rfl rfl (by decide +kernel) ⟨Nat.le_of_ble_eq_true rfl, Nat.le_of_ble_eq_true rfl⟩) (pw_preV (va_recv hKc hPc (ci := 11) (q0 := 0) rfl rfl) hPc hKc hDc hN) rfl rfl hl.1 rfl (lv_room (Nat.le_of_ble_eq_true rfl)) dX11_as_10 ⟨Nat.le_of_ble_eq_true rfl, Nat.le_of_ble_eq_true rfl⟩) hS (fun q _ h => hFc q h) hFc (fun r3 u t H1 locs ht hvm hw hB hz1 hk1 hS => ?_)
    have hr3 : r3 = (-1) := hw
    obtain ⟨hP1, hK1, hD1⟩ := hB
    rw [ht] at hP1
    obtain ⟨hP, hD⟩ := va_join (wr := []) (w1 := [(qm, .inr (11, [.int 0, w1, w2, w3, w4, w5, w6, w7, w8, w9, w10, w11, w12, w13, w14, w15, w16, .int 0, w18, w19, w20, w21, w22, w23, w24, w25, w26, w27, w28, w29, w30, w31, w32, w33, w34, w35, w36, w37, w38]))]) hP hD [0] [] rfl rfl (by decide) (by decide) hk1 hFc hP1 hD1
    generalize H1 = H at hP hS ⊢
    have hP : va_P (dC, dI) vwCl [(qm, .inr (11, [.int 0, w1, w2, w3, w4, w5, w6, w7, w8, w9, w10, w11, w12, w13, w14, w15, w16, .int 0, w18, w19, w20, w21, w22, w23, w24, w25, w26, w27, w28, w29, w30, w31, w32, w33, w34, w35, w36, w37, w38]))] H := hP
    have hD : va_D _ [(qm, .inr (11, [.int 0, w1, w2, w3, w4, w5, w6, w7, w8, w9, w10, w11, w12, w13, w14, w15, w16, .int 0, w18, w19, w20, w21, w22, w23, w24, w25, w26, w27, w28, w29, w30, w31, w32, w33, w34, w35, w36, w37, w38]))] := hD
    exact W.iret (v := r3) hx hb hr (fun t ht hW => ⟨⟨r3, (), rfl, hr3, trivial⟩, hS.F ht⟩) hS.2.2 dX11_as_13
set_option maxHeartbeats 4000000 in
set_option maxRecDepth 100000 in
theorem c_X11_trace (l : Launch) (dC : Nat → ClassId) (dI : Nat → Nat → Nat)  (sz : Nat) (qm : Nat) (w0 : Value) (w1 : Value) (w2 : Value) (w3 : Value) (w4 : Value) (w5 : Value) (w6 : Value) (w7 : Value) (w8 : Value) (w9 : Value) (w10 : Value) (w11 : Value) (w12 : Value) (w13 : Value) (w14 : Value) (w15 : Value) (w16 : Value) (w17 : Value) (w18 : Value) (w19 : Value) (w20 : Value) (w21 : Value) (w22 : Value) (w23 : Value) (w24 : Value) (w25 : Value) (w26 : Value) (w27 : Value) (w28 : Value) (w29 : Value) (w30 : Value) (w31 : Value) (w32 : Value) (w33 : Value) (w34 : Value) (w35 : Value) (w36 : Value) (w37 : Value)  : Met l yX11_trace wsX11_trace ({ frames := 2, cells := 0, slots := 0, locals := 60 }) (pw (dC, dI) [] [(qm, .inr (11, [w0, w1, w2, w3, w4, w5, w6, w7, w8, w9, w10, w11, w12, w13, w14, w15, w16, w17, w18, w19, w20, w21, w22, w23, w24, w25, w26, w27, w28, w29, w30, w31, w32, w33, w34, w35, w36, w37, .int 0]))] sz [.ref qm]) (vp_Si (fun r => r = 0)) 0 0 (fun _ => False) := by
  refine pw_met (cc := cX11_trace) (maxL := 1) (ret := (some .int)) (by decide) rfl (Nat.le_of_ble_eq_true rfl) ?_
  intro p e s m below meth c0 hx hb hr hml hown hlocks hnm hts hP hK hD hN hsz hA hS ls hl
  have hl : lv_has ls 1 [(0, .ref qm)] := hl
  have hiX11 : ∀ w ∈ wsX110, w ∈ wsX11_trace := by decide +kernel
  refine lv_aload_n hx hb dX11_trace_0 rfl (lv_at hl 0 rfl) ?_
  refine va_get (D := (dC, dI)) (ci := 11) (v := .int 0) (C := RX11) (T := TX11) (N := 39) hx hb hts hiX11 hown hK hP 0 rfl rfl 38 (by decide) (hts (.fieldLink RX11 235 "TributePitchesModel" "trace" "I") (by decide +kernel)) (fun _ h9 => h9) rfl dX11_trace_1 ?_
  exact W.iret (v := 0) hx hb hr (fun t ht hW => ⟨0, rfl, rfl, ht⟩) (fun q h => absurd h List.not_mem_nil) dX11_trace_4
set_option maxHeartbeats 4000000 in
set_option maxRecDepth 100000 in
theorem c_X11_fault (l : Launch) (dC : Nat → ClassId) (dI : Nat → Nat → Nat)  (sz : Nat) (qm : Nat) (w1 : Value) (w2 : Value) (w3 : Value) (w4 : Value) (w5 : Value) (w6 : Value) (w7 : Value) (w8 : Value) (w9 : Value) (w10 : Value) (w11 : Value) (w12 : Value) (w13 : Value) (w14 : Value) (w15 : Value) (w16 : Value) (w17 : Value) (w18 : Value) (w19 : Value) (w20 : Value) (w21 : Value) (w22 : Value) (w23 : Value) (w24 : Value) (w25 : Value) (w26 : Value) (w27 : Value) (w28 : Value) (w29 : Value) (w30 : Value) (w31 : Value) (w32 : Value) (w33 : Value) (w34 : Value) (w35 : Value) (w36 : Value) (w37 : Value) (w38 : Value)  : Met l yX11_fault wsX11_fault ({ frames := 2, cells := 0, slots := 0, locals := 60 }) (pw (dC, dI) [] [(qm, .inr (11, [.int 0, w1, w2, w3, w4, w5, w6, w7, w8, w9, w10, w11, w12, w13, w14, w15, w16, w17, w18, w19, w20, w21, w22, w23, w24, w25, w26, w27, w28, w29, w30, w31, w32, w33, w34, w35, w36, w37, w38]))] sz [.ref qm]) (vp_Si (fun r => r = 0)) 0 0 (fun _ => False) := by
  refine pw_met (cc := cX11_fault) (maxL := 1) (ret := (some .int)) (by decide) rfl (Nat.le_of_ble_eq_true rfl) ?_
  intro p e s m below meth c0 hx hb hr hml hown hlocks hnm hts hP hK hD hN hsz hA hS ls hl
  have hl : lv_has ls 1 [(0, .ref qm)] := hl
  have hiX11 : ∀ w ∈ wsX110, w ∈ wsX11_fault := by decide +kernel
  refine lv_aload_n hx hb dX11_fault_0 rfl (lv_at hl 0 rfl) ?_
  refine va_get (D := (dC, dI)) (ci := 11) (v := .int 0) (C := RX11) (T := TX11) (N := 39) hx hb hts hiX11 hown hK hP 0 rfl rfl 0 (by decide) (hts (.fieldLink RX11 102 "TributePitchesModel" "fault" "I") (by decide +kernel)) (fun _ h9 => h9) rfl dX11_fault_1 ?_
  exact W.iret (v := 0) hx hb hr (fun t ht hW => ⟨0, rfl, rfl, ht⟩) (fun q h => absurd h List.not_mem_nil) dX11_fault_4
set_option maxHeartbeats 4000000 in
set_option maxRecDepth 100000 in
theorem c_X11_told (l : Launch) (dC : Nat → ClassId) (dI : Nat → Nat → Nat)  (sz : Nat) (qm : Nat) (w0 : Value) (w2 : Value) (w3 : Value) (w4 : Value) (w5 : Value) (w6 : Value) (w7 : Value) (w8 : Value) (w9 : Value) (w10 : Value) (w12 : Value) (w13 : Value) (w14 : Value) (w15 : Value) (w16 : Value) (w18 : Value) (w19 : Value) (w21 : Value) (w22 : Value) (w23 : Value) (w25 : Value) (w26 : Value) (w27 : Value) (w28 : Value) (w29 : Value) (w30 : Value) (w31 : Value) (w32 : Value) (w33 : Value) (w35 : Value) (w36 : Value) (w37 : Value) (w38 : Value) (a0 : Int32)  : Met l yX11_told wsX11_told ({ frames := 2, cells := 0, slots := 0, locals := 60 }) (pw (dC, dI) [] [(qm, .inr (11, [w0, .int 1000, w2, w3, w4, w5, w6, w7, w8, w9, w10, .int 0, w12, w13, w14, w15, w16, .int 0, w18, w19, .int (-9), w21, w22, w23, .int 0, w25, w26, w27, w28, w29, w30, w31, w32, w33, .int 0, w35, w36, w37, w38]))] sz [.ref qm, .int a0]) (vp_Si (fun r => r = sp_told a0)) 0 0 (fun _ => False) := by
  refine pw_met (cc := cX11_told) (maxL := 2) (ret := (some .int)) (by decide) rfl (Nat.le_of_ble_eq_true rfl) ?_
  intro p e s m below meth c0 hx hb hr hml hown hlocks hnm hts hP hK hD hN hsz hA hS ls hl
  have hl : lv_has ls 2 [(0, .ref qm), (1, .int a0)] := hl
  have hiX11 : ∀ w ∈ wsX110, w ∈ wsX11_told := by decide +kernel
  refine lv_iload_n hx hb dX11_told_0 rfl (lv_at hl 1 rfl) ?_
  by_cases hw1 : a0 = 0
  · subst hw1
    refine lv_tableIn (off := 47) (tgt := 48) hx hb dX11_told_1 (by decide) (by decide) rfl (by decide) ?_
    refine lv_aload_n hx hb dX11_told_48 rfl (lv_at hl 0 rfl) ?_
    refine va_get (D := (dC, dI)) (ci := 11) (v := .int 0) (C := RX11) (T := TX11) (N := 39) hx hb hts hiX11 hown hK hP 0 rfl rfl 11 (by decide) (hts (.fieldLink RX11 170 "TributePitchesModel" "pitches" "I") (by decide +kernel)) (fun _ h9 => h9) rfl dX11_told_49 ?_
    exact W.iret (v := 0) hx hb hr (fun t ht hW => ⟨0, rfl, (by decide), ht⟩) (fun q h => absurd h List.not_mem_nil) dX11_told_52
  by_cases hw2 : a0 = 1
  · subst hw2
    refine lv_tableIn (off := 52) (tgt := 53) hx hb dX11_told_1 (by decide) (by decide) rfl (by decide) ?_
    refine lv_aload_n hx hb dX11_told_53 rfl (lv_at hl 0 rfl) ?_
    refine va_get (D := (dC, dI)) (ci := 11) (v := .int 0) (C := RX11) (T := TX11) (N := 39) hx hb hts hiX11 hown hK hP 0 rfl rfl 17 (by decide) (hts (.fieldLink RX11 185 "TributePitchesModel" "gangs" "I") (by decide +kernel)) (fun _ h9 => h9) rfl dX11_told_54 ?_
    exact W.iret (v := 0) hx hb hr (fun t ht hW => ⟨0, rfl, (by decide), ht⟩) (fun q h => absurd h List.not_mem_nil) dX11_told_57
  by_cases hw3 : a0 = 2
  · subst hw3
    refine lv_tableIn (off := 57) (tgt := 58) hx hb dX11_told_1 (by decide) (by decide) rfl (by decide) ?_
    refine lv_aload_n hx hb dX11_told_58 rfl (lv_at hl 0 rfl) ?_
    refine va_get (D := (dC, dI)) (ci := 11) (v := .int 0) (C := RX11) (T := TX11) (N := 39) hx hb hts hiX11 hown hK hP 0 rfl rfl 24 (by decide) (hts (.fieldLink RX11 188 "TributePitchesModel" "takes" "I") (by decide +kernel)) (fun _ h9 => h9) rfl dX11_told_59 ?_
    exact W.iret (v := 0) hx hb hr (fun t ht hW => ⟨0, rfl, (by decide), ht⟩) (fun q h => absurd h List.not_mem_nil) dX11_told_62
  by_cases hw4 : a0 = 3
  · subst hw4
    refine lv_tableIn (off := 62) (tgt := 63) hx hb dX11_told_1 (by decide) (by decide) rfl (by decide) ?_
    refine lv_aload_n hx hb dX11_told_63 rfl (lv_at hl 0 rfl) ?_
    refine va_get (D := (dC, dI)) (ci := 11) (v := .int 0) (C := RX11) (T := TX11) (N := 39) hx hb hts hiX11 hown hK hP 0 rfl rfl 34 (by decide) (hts (.fieldLink RX11 217 "TributePitchesModel" "parcels" "I") (by decide +kernel)) (fun _ h9 => h9) rfl dX11_told_64 ?_
    exact W.iret (v := 0) hx hb hr (fun t ht hW => ⟨0, rfl, (by decide), ht⟩) (fun q h => absurd h List.not_mem_nil) dX11_told_67
  by_cases hw5 : a0 = 4
  · subst hw5
    refine lv_tableIn (off := 67) (tgt := 68) hx hb dX11_told_1 (by decide) (by decide) rfl (by decide) ?_
    refine lv_aload_n hx hb dX11_told_68 rfl (lv_at hl 0 rfl) ?_
    refine va_get (D := (dC, dI)) (ci := 11) (v := .int 1000) (C := RX11) (T := TX11) (N := 39) hx hb hts hiX11 hown hK hP 0 rfl rfl 1 (by decide) (hts (.fieldLink RX11 93 "TributePitchesModel" "far" "I") (by decide +kernel)) (fun _ h9 => h9) rfl dX11_told_69 ?_
    exact W.iret (v := 1000) hx hb hr (fun t ht hW => ⟨1000, rfl, (by decide), ht⟩) (fun q h => absurd h List.not_mem_nil) dX11_told_72
  by_cases hw6 : a0 = 5
  · subst hw6
    refine lv_tableIn (off := 72) (tgt := 73) hx hb dX11_told_1 (by decide) (by decide) rfl (by decide) ?_
    refine lv_aload_n hx hb dX11_told_73 rfl (lv_at hl 0 rfl) ?_
    refine va_get (D := (dC, dI)) (ci := 11) (v := .int (-9)) (C := RX11) (T := TX11) (N := 39) hx hb hts hiX11 hown hK hP 0 rfl rfl 20 (by decide) (hts (.fieldLink RX11 97 "TributePitchesModel" "sold" "I") (by decide +kernel)) (fun _ h9 => h9) rfl dX11_told_74 ?_
    refine lv_if_ge (tgt := 85) hx hb dX11_told_77 (by decide) (fun c7 => ?_) (fun c7 => ?_)
    · exact absurd c7 (by decide)
    · skip
      refine lv_bipush (v := (-9)) hx hb dX11_told_80 (by decide) ?_
      refine lv_goto (tgt := 89) hx hb dX11_told_82 (by decide) ?_
      exact W.iret (v := (-9)) hx hb hr (fun t ht hW => ⟨(-9), rfl, (by decide), ht⟩) (fun q h => absurd h List.not_mem_nil) dX11_told_89
  by_cases hw8 : a0 = 6
  · subst hw8
    refine lv_tableIn (off := 89) (tgt := 90) hx hb dX11_told_1 (by decide) (by decide) rfl (by decide) ?_
    refine lv_aload_n hx hb dX11_told_90 rfl (lv_at hl 0 rfl) ?_
    refine va_get (D := (dC, dI)) (ci := 11) (v := .int (-9)) (C := RX11) (T := TX11) (N := 39) hx hb hts hiX11 hown hK hP 0 rfl rfl 20 (by decide) (hts (.fieldLink RX11 97 "TributePitchesModel" "sold" "I") (by decide +kernel)) (fun _ h9 => h9) rfl dX11_told_91 ?_
    exact W.iret (v := (-9)) hx hb hr (fun t ht hW => ⟨(-9), rfl, (by decide), ht⟩) (fun q h => absurd h List.not_mem_nil) dX11_told_94
  by_cases hw9 : a0 = 7
  · subst hw9
    refine lv_tableIn (off := 94) (tgt := 95) hx hb dX11_told_1 (by decide) (by decide) rfl (by decide) ?_
    refine lv_aload_n hx hb dX11_told_95 rfl (lv_at hl 0 rfl) ?_
    refine va_get (D := (dC, dI)) (ci := 11) (v := .int (-9)) (C := RX11) (T := TX11) (N := 39) hx hb hts hiX11 hown hK hP 0 rfl rfl 20 (by decide) (hts (.fieldLink RX11 97 "TributePitchesModel" "sold" "I") (by decide +kernel)) (fun _ h9 => h9) rfl dX11_told_96 ?_
    refine lv_if_ge (tgt := 107) hx hb dX11_told_99 (by decide) (fun c10 => ?_) (fun c10 => ?_)
    · exact absurd c10 (by decide)
    · skip
      refine lv_bipush (v := (-9)) hx hb dX11_told_102 (by decide) ?_
      refine lv_goto (tgt := 111) hx hb dX11_told_104 (by decide) ?_
      exact W.iret (v := (-9)) hx hb hr (fun t ht hW => ⟨(-9), rfl, (by decide), ht⟩) (fun q h => absurd h List.not_mem_nil) dX11_told_111
  refine lv_tableOut (tgt := 112) hx hb dX11_told_1 (tb_out8 hw1 hw2 hw3 hw4 hw5 hw6 hw8 hw9) (by decide) ?_
  refine lv_bipush (v := (-2)) hx hb dX11_told_112 (by decide) ?_
  exact W.iret (v := (-2)) hx hb hr (fun t ht hW => ⟨(-2), rfl, (by simp [sp_told, hw1, hw2, hw3, hw4, hw5, hw6, hw8, hw9]), ht⟩) (fun q h => absurd h List.not_mem_nil) dX11_told_114
set_option maxHeartbeats 4000000 in
set_option maxRecDepth 100000 in
theorem c_X11_noCell (l : Launch) (dC : Nat → ClassId) (dI : Nat → Nat → Nat) (cI : ClassId) (sz : Nat) (qm : Nat) (w0 : Value) (w1 : Value) (w2 : Value) (w3 : Value) (w4 : Value) (w5 : Value) (w6 : Value) (w8 : Value) (w9 : Value) (w10 : Value) (w11 : Value) (w12 : Value) (w13 : Value) (w14 : Value) (w15 : Value) (w16 : Value) (w17 : Value) (w18 : Value) (w19 : Value) (w20 : Value) (w21 : Value) (w22 : Value) (w23 : Value) (w24 : Value) (w25 : Value) (w26 : Value) (w27 : Value) (w28 : Value) (w29 : Value) (w30 : Value) (w31 : Value) (w32 : Value) (w33 : Value) (w34 : Value) (w35 : Value) (w36 : Value) (w37 : Value) (w38 : Value) (ss : Nat) (k : Int32) (i : Int32) (hk : 0 ≤ k ∧ k ≤ 3) : Met l yX11_noCell wsX11_noCell ({ frames := 1, cells := 0, slots := 0, locals := 30 }) (pw (dC, dI) [(cI, .int)] [(qm, .inr (11, [w0, w1, w2, w3, w4, w5, w6, .ref ss, w8, w9, w10, w11, w12, w13, w14, w15, w16, w17, w18, w19, w20, w21, w22, w23, w24, w25, w26, w27, w28, w29, w30, w31, w32, w33, w34, w35, w36, w37, w38])), (ss, .inl (cI, 4, .inl (fun _ => (-1))))] sz [.ref qm, .int k, .int i]) (vp_Si (fun r => r = 1)) 0 0 (fun _ => False) := by
  refine pw_met (cc := cX11_noCell) (maxL := 3) (ret := (some .int)) (by decide) rfl (Nat.le_of_ble_eq_true rfl) ?_
  intro p e s m below meth c0 hx hb hr hml hown hlocks hnm hts hP hK hD hN hsz hA hS ls hl
  have hl : lv_has ls 3 [(0, .ref qm), (1, .int k), (2, .int i)] := hl
  have hiX11 : ∀ w ∈ wsX110, w ∈ wsX11_noCell := by decide +kernel
  refine lv_aload_n hx hb dX11_noCell_0 rfl (lv_at hl 0 rfl) ?_
  refine va_get (D := (dC, dI)) (ci := 11) (v := .ref ss) (C := RX11) (T := TX11) (N := 39) hx hb hts hiX11 hown hK hP 0 rfl rfl 7 (by decide) (hts (.fieldLink RX11 22 "TributePitchesModel" "sheetSize" "[I") (by decide +kernel)) (fun _ h9 => h9) rfl dX11_noCell_1 ?_
  refine lv_iload_n hx hb dX11_noCell_4 rfl (lv_at hl 1 rfl) ?_
  refine va_iald hx hb hK hP 1 0 rfl rfl (in4 hk) dX11_noCell_5 ?_
  refine W.eq (g2 := F0 m 6 ls [.int ((-1)]) rfl ?_
  refine lv_if_ge (tgt := 13) hx hb dX11_noCell_6 (by decide) (fun c1 => ?_) (fun c1 => ?_)
  · exact absurd c1 (by decide)
  · skip
    refine lv_iconst (v := 1) hx hb dX11_noCell_9 (by decide) ?_
    refine lv_goto (tgt := 36) hx hb dX11_noCell_10 (by decide) ?_
    exact W.iret (v := 1) hx hb hr (fun t ht hW => ⟨1, rfl, rfl, ht⟩) (fun q h => absurd h List.not_mem_nil) dX11_noCell_36
set_option maxHeartbeats 4000000 in
set_option maxRecDepth 100000 in
theorem c_X11_lose (l : Launch) (dC : Nat → ClassId) (dI : Nat → Nat → Nat) (cI : ClassId) (sz : Nat) (qm : Nat) (w0 : Value) (w1 : Value) (w2 : Value) (w3 : Value) (w4 : Value) (w5 : Value) (w6 : Value) (w8 : Value) (w9 : Value) (w10 : Value) (w11 : Value) (w12 : Value) (w13 : Value) (w14 : Value) (w15 : Value) (w16 : Value) (w17 : Value) (w18 : Value) (w19 : Value) (w20 : Value) (w21 : Value) (w22 : Value) (w23 : Value) (w24 : Value) (w25 : Value) (w26 : Value) (w27 : Value) (w28 : Value) (w29 : Value) (w30 : Value) (w31 : Value) (w32 : Value) (w33 : Value) (w34 : Value) (w35 : Value) (w36 : Value) (w37 : Value) (w38 : Value) (ss : Nat) (k : Int32)  : Met l yX11_lose wsX11_lose ({ frames := 3, cells := 0, slots := 0, locals := 90 }) (pw (dC, dI) [(cI, .int)] [(qm, .inr (11, [w0, w1, w2, w3, w4, w5, w6, .ref ss, w8, w9, w10, w11, w12, w13, w14, w15, w16, w17, w18, w19, w20, w21, w22, w23, w24, w25, w26, w27, w28, w29, w30, w31, w32, w33, w34, w35, w36, w37, w38])), (ss, .inl (cI, 4, .inl (fun _ => (-1))))] sz [.ref qm, .int k]) (va_Qi (fun r (_ : Unit) => r = sp_lose k) (fun _ _ => True) (va_A [(qm, .inr (11, [w0, w1, w2, w3, w4, w5, w6, .ref ss, w8, w9, w10, w11, w12, w13, w14, w15, w16, w17, w18, w19, w20, w21, w22, w23, w24, w25, w26, w27, w28, w29, w30, w31, w32, w33, w34, w35, w36, w37, w38])), (ss, .inl (cI, 4, .inl (fun _ => (-1))))] sz)) 0 0 (va_A [(qm, .inr (11, [w0, w1, w2, w3, w4, w5, w6, .ref ss, w8, w9, w10, w11, w12, w13, w14, w15, w16, w17, w18, w19, w20, w21, w22, w23, w24, w25, w26, w27, w28, w29, w30, w31, w32, w33, w34, w35, w36, w37, w38])), (ss, .inl (cI, 4, .inl (fun _ => (-1))))] sz) := by
  refine pw_met (cc := cX11_lose) (maxL := 3) (ret := (some .int)) (by decide) rfl (Nat.le_of_ble_eq_true rfl) ?_
  intro p e s m below meth c0 hx hb hr hml hown hlocks hnm hts hP hK hD hN hsz hA hS ls hl
  subst hsz
  have hl : lv_has ls 3 [(0, .ref qm), (1, .int k)] := hl
  have hiX11 : ∀ w ∈ wsX110, w ∈ wsX11_lose := by decide +kernel
  refine lv_iload_n hx hb dX11_lose_0 rfl (lv_at hl 1 rfl) ?_
  refine vp_callSi (va_Run.run (va_runS (As := [.int k]) (rest := []) ⟨hx, hb, hml, hown, hts⟩ (c_X11_noSheet l k ) (va_cwS 1 hts gX11_lose_X11_noSheet rfl rfl rfl (by decide +kernel) ⟨Nat.le_of_ble_eq_true rfl, Nat.le_of_ble_eq_true rfl⟩) (p0_preS hN) rfl rfl hl.1 rfl (lv_room (Nat.le_of_ble_eq_true rfl)) dX11_lose_1 ⟨Nat.le_of_ble_eq_true rfl, Nat.le_of_ble_eq_true rfl⟩)) (fun r1 hr1 => ?_)
  have hr1 : r1 = if ¬ (0 ≤ k ∧ k ≤ 3) then 1 else 0 := hr1
  refine lv_if_eq (tgt := 9) hx hb dX11_lose_4 (by decide) (fun c2 => ?_) (fun c2 => ?_)
  · skip
    have c2 := (fa_bool_prop hr1).1.mp c2
    have c2 := Decidable.not_not.mp c2
    refine lv_aload_n hx hb dX11_lose_9 rfl (lv_at hl 0 rfl) ?_
    refine va_get (D := (dC, dI)) (ci := 11) (v := .ref ss) (C := RX11) (T := TX11) (N := 39) hx hb hts hiX11 hown hK hP 0 rfl rfl 7 (by decide) (hts (.fieldLink RX11 22 "TributePitchesModel" "sheetSize" "[I") (by decide +kernel)) (fun _ h9 => h9) rfl dX11_lose_10 ?_
    refine lv_iload_n hx hb dX11_lose_13 rfl (lv_at hl 1 rfl) ?_
    refine va_iald hx hb hK hP 1 0 rfl rfl (in4 c2) dX11_lose_14 ?_
    refine W.eq (g2 := F0 m 15 ls [.int ((-1)]) rfl ?_
    refine lv_if_ge (tgt := 22) hx hb dX11_lose_15 (by decide) (fun c3 => ?_) (fun c3 => ?_)
    · exact absurd c3 (by decide)
    · skip
      refine lv_iconst (v := 0) hx hb dX11_lose_18 (by decide) ?_
      refine lv_goto (tgt := 23) hx hb dX11_lose_19 (by decide) ?_
      refine lv_istore_n (lv' := [(2, .int 0), (0, .ref qm), (1, .int k)]) hx hb dX11_lose_23 rfl hl (by decide) rfl (fun ls hl => ?_)
      refine lv_aload_n hx hb dX11_lose_24 rfl (lv_at hl 1 rfl) ?_
      refine va_get (D := (dC, dI)) (ci := 11) (v := .ref ss) (C := RX11) (T := TX11) (N := 39) hx hb hts hiX11 hown hK hP 0 rfl rfl 7 (by decide) (hts (.fieldLink RX11 22 "TributePitchesModel" "sheetSize" "[I") (by decide +kernel)) (fun _ h9 => h9) rfl dX11_lose_25 ?_
      refine lv_iload_n hx hb dX11_lose_28 rfl (lv_at hl 2 rfl) ?_
      refine lv_iconst (v := (-1)) hx hb dX11_lose_29 (by decide) ?_
      refine va_iast hx hb hK hP hD hS 1 0 rfl rfl (in4 c2) dX11_lose_30 (fun H locs hP hD hS => ?_)
      have hP : va_P (dC, dI) vwCl [(qm, .inr (11, [w0, w1, w2, w3, w4, w5, w6, .ref ss, w8, w9, w10, w11, w12, w13, w14, w15, w16, w17, w18, w19, w20, w21, w22, w23, w24, w25, w26, w27, w28, w29, w30, w31, w32, w33, w34, w35, w36, w37, w38])), (ss, .inl (cI, 4, .inl (upd (fun _ => (-1)) (k).toNatClampNeg (-1))))] H := hP
      have hD : va_D _ [(qm, .inr (11, [w0, w1, w2, w3, w4, w5, w6, .ref ss, w8, w9, w10, w11, w12, w13, w14, w15, w16, w17, w18, w19, w20, w21, w22, w23, w24, w25, w26, w27, w28, w29, w30, w31, w32, w33, w34, w35, w36, w37, w38])), (ss, .inl (cI, 4, .inl (upd (fun _ => (-1)) (k).toNatClampNeg (-1))))] := hD
      refine lv_iload_n hx hb dX11_lose_31 rfl (lv_at hl 0 rfl) ?_
      exact W.iret (v := 0) hx hb hr (fun t ht hW => ⟨⟨0, (), rfl, (by simp [sp_lose, c2, c3]), trivial⟩, hS.F ht⟩) hS.2.2 dX11_lose_32
  · skip
    have c2 := (fa_bool_prop hr1).2.mp c2
    refine lv_iconst (v := (-1)) hx hb dX11_lose_7 (by decide) ?_
    exact W.iret (v := (-1)) hx hb hr (fun t ht hW => ⟨⟨(-1), (), rfl, (by simp [sp_lose, c2]), trivial⟩, hS.F ht⟩) hS.2.2 dX11_lose_8
set_option maxHeartbeats 4000000 in
set_option maxRecDepth 100000 in
theorem c_X11_put (l : Launch) (dC : Nat → ClassId) (dI : Nat → Nat → Nat) (cI : ClassId) (sz : Nat) (qm : Nat) (w0 : Value) (w1 : Value) (w2 : Value) (w3 : Value) (w4 : Value) (w5 : Value) (w6 : Value) (w8 : Value) (w9 : Value) (w10 : Value) (w11 : Value) (w12 : Value) (w13 : Value) (w14 : Value) (w15 : Value) (w16 : Value) (w17 : Value) (w18 : Value) (w19 : Value) (w20 : Value) (w21 : Value) (w22 : Value) (w23 : Value) (w24 : Value) (w25 : Value) (w26 : Value) (w27 : Value) (w28 : Value) (w29 : Value) (w30 : Value) (w31 : Value) (w32 : Value) (w33 : Value) (w34 : Value) (w35 : Value) (w36 : Value) (w37 : Value) (w38 : Value) (ss : Nat) (k : Int32) (i : Int32) (v : Int32)  : Met l yX11_put wsX11_put ({ frames := 3, cells := 0, slots := 0, locals := 90 }) (pw (dC, dI) [(cI, .int)] [(qm, .inr (11, [w0, w1, w2, w3, w4, w5, w6, .ref ss, w8, w9, w10, w11, w12, w13, w14, w15, w16, w17, w18, w19, w20, w21, w22, w23, w24, w25, w26, w27, w28, w29, w30, w31, w32, w33, w34, w35, w36, w37, w38])), (ss, .inl (cI, 4, .inl (fun _ => (-1))))] sz [.ref qm, .int k, .int i, .int v]) (va_Qi (fun r (_ : Unit) => r = sp_put k) (fun _ _ => True) (va_A [(qm, .inr (11, [w0, w1, w2, w3, w4, w5, w6, .ref ss, w8, w9, w10, w11, w12, w13, w14, w15, w16, w17, w18, w19, w20, w21, w22, w23, w24, w25, w26, w27, w28, w29, w30, w31, w32, w33, w34, w35, w36, w37, w38])), (ss, .inl (cI, 4, .inl (fun _ => (-1))))] sz)) 0 0 (va_A [(qm, .inr (11, [w0, w1, w2, w3, w4, w5, w6, .ref ss, w8, w9, w10, w11, w12, w13, w14, w15, w16, w17, w18, w19, w20, w21, w22, w23, w24, w25, w26, w27, w28, w29, w30, w31, w32, w33, w34, w35, w36, w37, w38])), (ss, .inl (cI, 4, .inl (fun _ => (-1))))] sz) := by
  refine pw_met (cc := cX11_put) (maxL := 4) (ret := (some .int)) (by decide) rfl (Nat.le_of_ble_eq_true rfl) ?_
  intro p e s m below meth c0 hx hb hr hml hown hlocks hnm hts hP hK hD hN hsz hA hS ls hl
  subst hsz
  have hl : lv_has ls 4 [(0, .ref qm), (1, .int k), (2, .int i), (3, .int v)] := hl
  refine lv_iload_n hx hb dX11_put_0 rfl (lv_at hl 1 rfl) ?_
  refine vp_callSi (va_Run.run (va_runS (As := [.int k]) (rest := []) ⟨hx, hb, hml, hown, hts⟩ (c_X11_noSheet l k ) (va_cwS 1 hts gX11_put_X11_noSheet rfl rfl rfl (by decide +kernel) ⟨Nat.le_of_ble_eq_true rfl, Nat.le_of_ble_eq_true rfl⟩) (p0_preS hN) rfl rfl hl.1 rfl (lv_room (Nat.le_of_ble_eq_true rfl)) dX11_put_1 ⟨Nat.le_of_ble_eq_true rfl, Nat.le_of_ble_eq_true rfl⟩)) (fun r1 hr1 => ?_)
  have hr1 : r1 = if ¬ (0 ≤ k ∧ k ≤ 3) then 1 else 0 := hr1
  refine lv_if_eq (tgt := 13) hx hb dX11_put_4 (by decide) (fun c2 => ?_) (fun c2 => ?_)
  · skip
    have c2 := (fa_bool_prop hr1).1.mp c2
    have c2 := Decidable.not_not.mp c2
    refine lv_aload_n hx hb dX11_put_13 rfl (lv_at hl 0 rfl) ?_
    refine lv_iload_n hx hb dX11_put_14 rfl (lv_at hl 1 rfl) ?_
    refine lv_iload_n hx hb dX11_put_15 rfl (lv_at hl 2 rfl) ?_
    have hPc := hP.sub (ws' := [(qm, .inr (11, [w0, w1, w2, w3, w4, w5, w6, .ref ss, w8, w9, w10, w11, w12, w13, w14, w15, w16, w17, w18, w19, w20, w21, w22, w23, w24, w25, w26, w27, w28, w29, w30, w31, w32, w33, w34, w35, w36, w37, w38])), (ss, .inl (cI, 4, .inl (fun _ => (-1))))]) [0, 1] rfl
    have hDc := hD.sub (ws' := [(qm, .inr (11, [w0, w1, w2, w3, w4, w5, w6, .ref ss, w8, w9, w10, w11, w12, w13, w14, w15, w16, w17, w18, w19, w20, w21, w22, w23, w24, w25, w26, w27, w28, w29, w30, w31, w32, w33, w34, w35, w36, w37, w38])), (ss, .inl (cI, 4, .inl (fun _ => (-1))))]) [0, 1] (by decide) rfl
    have hKc := hK.sub (tys' := [(cI, .int)]) [0] rfl
    refine vp_callSi (va_Run.run (va_runV (As := [.int k, .int i]) (rest := []) ⟨hx, hb, hml, hown, hts⟩ (c_X11_noCell l dC dI cI _ qm w0 w1 w2 w3 w4 w5 w6 w8 w9 w10 w11 w12 w13 w14 w15 w16 w17 w18 w19 w20 w21 w22 w23 w24 w25 w26 w27 w28 w29 w30 w31 w32 w33 w34 w35 w36 w37 w38 ss k i c2) (cwV 2 hts gX11_put_X11_noCell rfl rfl rfl (by decide +kernel) ⟨Nat.le_of_ble_eq_true rfl, Nat.le_of_ble_eq_true rfl⟩) (pw_preV (va_recv hKc hPc (ci := 11) (q0 := 0) rfl rfl) hPc hKc hDc hN) rfl rfl hl.1 rfl (lv_room (Nat.le_of_ble_eq_true rfl)) dX11_put_16 ⟨Nat.le_of_ble_eq_true rfl, Nat.le_of_ble_eq_true rfl⟩)) (fun r3 hr3 => ?_)
    have hr3 : r3 = 1 := hr3
    subst hr3
    refine lv_if_le (tgt := 33) hx hb dX11_put_19 (by decide) (fun c4 => ?_) (fun c4 => ?_)
    · exact absurd c4 (by decide)
    · skip
      refine lv_aload_n hx hb dX11_put_22 rfl (lv_at hl 0 rfl) ?_
      refine lv_aload_n hx hb dX11_put_23 rfl (lv_at hl 0 rfl) ?_
      refine lv_iload_n hx hb dX11_put_24 rfl (lv_at hl 1 rfl) ?_
      refine lv_iload_n hx hb dX11_put_25 rfl (lv_at hl 2 rfl) ?_
      have hPc := hP.sub (ws' := [(qm, .inr (11, [w0, w1, w2, w3, w4, w5, w6, .ref ss, w8, w9, w10, w11, w12, w13, w14, w15, w16, w17, w18, w19, w20, w21, w22, w23, w24, w25, w26, w27, w28, w29, w30, w31, w32, w33, w34, w35, w36, w37, w38])), (ss, .inl (cI, 4, .inl (fun _ => (-1))))]) [0, 1] rfl
      have hDc := hD.sub (ws' := [(qm, .inr (11, [w0, w1, w2, w3, w4, w5, w6, .ref ss, w8, w9, w10, w11, w12, w13, w14, w15, w16, w17, w18, w19, w20, w21, w22, w23, w24, w25, w26, w27, w28, w29, w30, w31, w32, w33, w34, w35, w36, w37, w38])), (ss, .inl (cI, 4, .inl (fun _ => (-1))))]) [0, 1] (by decide) rfl
      have hKc := hK.sub (tys' := [(cI, .int)]) [0] rfl
      refine vp_callSi (va_Run.run (va_runV (As := [.int k, .int i]) (rest := [.ref qm]) ⟨hx, hb, hml, hown, hts⟩ (c_X11_noCell l dC dI cI _ qm w0 w1 w2 w3 w4 w5 w6 w8 w9 w10 w11 w12 w13 w14 w15 w16 w17 w18 w19 w20 w21 w22 w23 w24 w25 w26 w27 w28 w29 w30 w31 w32 w33 w34 w35 w36 w37 w38 ss k i c2) (cwV 2 hts gX11_put_X11_noCell rfl rfl rfl (by decide +kernel) ⟨Nat.le_of_ble_eq_true rfl, Nat.le_of_ble_eq_true rfl⟩) (pw_preV (va_recv hKc hPc (ci := 11) (q0 := 0) rfl rfl) hPc hKc hDc hN) rfl rfl hl.1 rfl (lv_room (Nat.le_of_ble_eq_true rfl)) dX11_put_26 ⟨Nat.le_of_ble_eq_true rfl, Nat.le_of_ble_eq_true rfl⟩)) (fun r5 hr5 => ?_)
      have hr5 : r5 = 1 := hr5
      subst hr5
      have hPc := hP.sub (ws' := [(qm, .inr (11, [w0, w1, w2, w3, w4, w5, w6, .ref ss, w8, w9, w10, w11, w12, w13, w14, w15, w16, w17, w18, w19, w20, w21, w22, w23, w24, w25, w26, w27, w28, w29, w30, w31, w32, w33, w34, w35, w36, w37, w38]))]) [0] rfl
      have hDc := hD.sub (ws' := [(qm, .inr (11, [w0, w1, w2, w3, w4, w5, w6, .ref ss, w8, w9, w10, w11, w12, w13, w14, w15, w16, w17, w18, w19, w20, w21, w22, w23, w24, w25, w26, w27, w28, w29, w30, w31, w32, w33, w34, w35, w36, w37, w38]))]) [0] (by decide) rfl
      have hKc := hK.sub (tys' := []) [] rfl
      have hFc := va_free (wc := [(qm, .inr (11, [w0, w1, w2, w3, w4, w5, w6, .ref ss, w8, w9, w10, w11, w12, w13, w14, w15, w16, w17, w18, w19, w20, w21, w22, w23, w24, w25, w26, w27, w28, w29, w30, w31, w32, w33, w34, w35, w36, w37, w38]))]) hD hS hA [0] rfl
      refine va_calli (va_runV (As := [.int 1]) (rest := []) ⟨hx, hb, hml, hown, hts⟩ (c_X11_failed l dC dI  _ qm w0 w1 w2 w3 w4 w5 w6 (.ref ss) w8 w9 w10 w11 w12 w13 w14 w15 w16 w17 w18 w19 w20 w21 w22 w23 w24 w25 w26 w27 w28 w29 w30 w31 w32 w33 w34 w35 w36 w37 w38 1 ) (cwV 1 hts gX11_put_X11_failed rfl rfl rfl (by decide +kernel) ⟨Nat.le_of_ble_eq_true rfl, Nat.le_of_ble_eq_true rfl⟩) (pw_preV (va_recv hKc hPc (ci := 11) (q0 := 0) rfl rfl) hPc hKc hDc hN) rfl rfl hl.1 rfl (lv_room (Nat.le_of_ble_eq_true rfl)) dX11_put_29 ⟨Nat.le_of_ble_eq_true rfl, Nat.le_of_ble_eq_true rfl⟩) hS (fun q _ h => hFc q h) hFc (fun r6 u t H1 locs ht hvm hw hB hz1 hk1 hS => ?_)
      have hr6 : r6 = -10 - 1 := hw
      obtain ⟨hP1, hK1, hD1⟩ := hB
      rw [ht] at hP1
      obtain ⟨hP, hD⟩ := va_join (wr := [(ss, .inl (cI, 4, .inl (fun _ => (-1))))]) (w1 := [(qm, .inr (11, [.int 1, w1, w2, w3, w4, w5, w6, .ref ss, w8, w9, w10, w11, w12, w13, w14, w15, w16, w17, w18, w19, w20, w21, w22, w23, w24, w25, w26, w27, w28, w29, w30, w31, w32, w33, w34, w35, w36, w37, w38]))]) hP hD [0] [1] rfl rfl (by decide) (by decide) hk1 hFc hP1 hD1
      generalize H1 = H at hP hS ⊢
      have hP : va_P (dC, dI) vwCl [(ss, .inl (cI, 4, .inl (fun _ => (-1)))), (qm, .inr (11, [.int 1, w1, w2, w3, w4, w5, w6, .ref ss, w8, w9, w10, w11, w12, w13, w14, w15, w16, w17, w18, w19, w20, w21, w22, w23, w24, w25, w26, w27, w28, w29, w30, w31, w32, w33, w34, w35, w36, w37, w38]))] H := hP
      have hD : va_D _ [(ss, .inl (cI, 4, .inl (fun _ => (-1)))), (qm, .inr (11, [.int 1, w1, w2, w3, w4, w5, w6, .ref ss, w8, w9, w10, w11, w12, w13, w14, w15, w16, w17, w18, w19, w20, w21, w22, w23, w24, w25, w26, w27, w28, w29, w30, w31, w32, w33, w34, w35, w36, w37, w38]))] := hD
      exact W.iret (v := r6) hx hb hr (fun t ht hW => ⟨⟨r6, (), rfl, (by rw [hr6]; simp [sp_put, c2, c4]), trivial⟩, hS.F ht⟩) hS.2.2 dX11_put_32
  · skip
    have c2 := (fa_bool_prop hr1).2.mp c2
    refine lv_aload_n hx hb dX11_put_7 rfl (lv_at hl 0 rfl) ?_
    refine lv_iconst (v := (-1)) hx hb dX11_put_8 (by decide) ?_
    have hPc := hP.sub (ws' := [(qm, .inr (11, [w0, w1, w2, w3, w4, w5, w6, .ref ss, w8, w9, w10, w11, w12, w13, w14, w15, w16, w17, w18, w19, w20, w21, w22, w23, w24, w25, w26, w27, w28, w29, w30, w31, w32, w33, w34, w35, w36, w37, w38]))]) [0] rfl
    have hDc := hD.sub (ws' := [(qm, .inr (11, [w0, w1, w2, w3, w4, w5, w6, .ref ss, w8, w9, w10, w11, w12, w13, w14, w15, w16, w17, w18, w19, w20, w21, w22, w23, w24, w25, w26, w27, w28, w29, w30, w31, w32, w33, w34, w35, w36, w37, w38]))]) [0] (by decide) rfl
    have hKc := hK.sub (tys' := []) [] rfl
    have hFc := va_free (wc := [(qm, .inr (11, [w0, w1, w2, w3, w4, w5, w6, .ref ss, w8, w9, w10, w11, w12, w13, w14, w15, w16, w17, w18, w19, w20, w21, w22, w23, w24, w25, w26, w27, w28, w29, w30, w31, w32, w33, w34, w35, w36, w37, w38]))]) hD hS hA [0] rfl
    refine va_calli (va_runV (As := [.int (-1)]) (rest := []) ⟨hx, hb, hml, hown, hts⟩ (c_X11_refused l dC dI  _ qm w0 w1 w2 w3 w4 w5 w6 (.ref ss) w8 w9 w10 w11 w12 w13 w14 w15 w16 w17 w18 w19 w20 w21 w22 w23 w24 w25 w26 w27 w28 w29 w30 w31 w32 w33 w34 w35 w36 w37 w38 (-1) ) (cwV 1 hts gX11_put_X11_refused rfl rfl rfl (by decide +kernel) ⟨Nat.le_of_ble_eq_true rfl, Nat.le_of_ble_eq_true rfl⟩) (pw_preV (va_recv hKc hPc (ci := 11) (q0 := 0) rfl rfl) hPc hKc hDc hN) rfl rfl hl.1 rfl (lv_room (Nat.le_of_ble_eq_true rfl)) dX11_put_9 ⟨Nat.le_of_ble_eq_true rfl, Nat.le_of_ble_eq_true rfl⟩) hS (fun q _ h => hFc q h) hFc (fun r7 u t H1 locs ht hvm hw hB hz1 hk1 hS => ?_)
    have hr7 : r7 = (-1) := hw
    obtain ⟨hP1, hK1, hD1⟩ := hB
    rw [ht] at hP1
    obtain ⟨hP, hD⟩ := va_join (wr := [(ss, .inl (cI, 4, .inl (fun _ => (-1))))]) (w1 := [(qm, .inr (11, [.int 0, w1, w2, w3, w4, w5, w6, .ref ss, w8, w9, w10, w11, w12, w13, w14, w15, w16, w17, w18, w19, w20, w21, w22, w23, w24, w25, w26, w27, w28, w29, w30, w31, w32, w33, w34, w35, w36, w37, w38]))]) hP hD [0] [1] rfl rfl (by decide) (by decide) hk1 hFc hP1 hD1
    generalize H1 = H at hP hS ⊢
    have hP : va_P (dC, dI) vwCl [(ss, .inl (cI, 4, .inl (fun _ => (-1)))), (qm, .inr (11, [.int 0, w1, w2, w3, w4, w5, w6, .ref ss, w8, w9, w10, w11, w12, w13, w14, w15, w16, w17, w18, w19, w20, w21, w22, w23, w24, w25, w26, w27, w28, w29, w30, w31, w32, w33, w34, w35, w36, w37, w38]))] H := hP
    have hD : va_D _ [(ss, .inl (cI, 4, .inl (fun _ => (-1)))), (qm, .inr (11, [.int 0, w1, w2, w3, w4, w5, w6, .ref ss, w8, w9, w10, w11, w12, w13, w14, w15, w16, w17, w18, w19, w20, w21, w22, w23, w24, w25, w26, w27, w28, w29, w30, w31, w32, w33, w34, w35, w36, w37, w38]))] := hD
    exact W.iret (v := r7) hx hb hr (fun t ht hW => ⟨⟨r7, (), rfl, (by rw [hr7]; simp [sp_put, c2]), trivial⟩, hS.F ht⟩) hS.2.2 dX11_put_12
set_option maxHeartbeats 4000000 in
set_option maxRecDepth 100000 in
theorem c_X11_cell (l : Launch) (dC : Nat → ClassId) (dI : Nat → Nat → Nat) (cI : ClassId) (sz : Nat) (qm : Nat) (w0 : Value) (w1 : Value) (w2 : Value) (w3 : Value) (w4 : Value) (w5 : Value) (w6 : Value) (w8 : Value) (w9 : Value) (w10 : Value) (w11 : Value) (w12 : Value) (w13 : Value) (w14 : Value) (w15 : Value) (w16 : Value) (w17 : Value) (w18 : Value) (w19 : Value) (w20 : Value) (w21 : Value) (w22 : Value) (w23 : Value) (w24 : Value) (w25 : Value) (w26 : Value) (w27 : Value) (w28 : Value) (w29 : Value) (w30 : Value) (w31 : Value) (w32 : Value) (w33 : Value) (w34 : Value) (w35 : Value) (w36 : Value) (w37 : Value) (w38 : Value) (ss : Nat) (k : Int32) (i : Int32) (ln : Int32)  : Met l yX11_cell wsX11_cell ({ frames := 3, cells := 0, slots := 0, locals := 90 }) (pw (dC, dI) [(cI, .int)] [(qm, .inr (11, [w0, w1, w2, w3, w4, w5, w6, .ref ss, w8, w9, w10, w11, w12, w13, w14, w15, w16, w17, w18, w19, w20, w21, w22, w23, w24, w25, w26, w27, w28, w29, w30, w31, w32, w33, w34, w35, w36, w37, w38])), (ss, .inl (cI, 4, .inl (fun _ => (-1))))] sz [.ref qm, .int k, .int i, .int ln]) (va_Ql (fun r (_ : Unit) => r = (-9223372036854775808)) (fun _ _ => True) (va_A [(qm, .inr (11, [w0, w1, w2, w3, w4, w5, w6, .ref ss, w8, w9, w10, w11, w12, w13, w14, w15, w16, w17, w18, w19, w20, w21, w22, w23, w24, w25, w26, w27, w28, w29, w30, w31, w32, w33, w34, w35, w36, w37, w38])), (ss, .inl (cI, 4, .inl (fun _ => (-1))))] sz)) 0 0 (va_A [(qm, .inr (11, [w0, w1, w2, w3, w4, w5, w6, .ref ss, w8, w9, w10, w11, w12, w13, w14, w15, w16, w17, w18, w19, w20, w21, w22, w23, w24, w25, w26, w27, w28, w29, w30, w31, w32, w33, w34, w35, w36, w37, w38])), (ss, .inl (cI, 4, .inl (fun _ => (-1))))] sz) := by
  refine pw_met (cc := cX11_cell) (maxL := 4) (ret := (some .long)) (by decide) rfl (Nat.le_of_ble_eq_true rfl) ?_
  intro p e s m below meth c0 hx hb hr hml hown hlocks hnm hts hP hK hD hN hsz hA hS ls hl
  subst hsz
  have hl : lv_has ls 4 [(0, .ref qm), (1, .int k), (2, .int i), (3, .int ln)] := hl
  have hiX11 : ∀ w ∈ wsX110, w ∈ wsX11_cell := by decide +kernel
  refine lv_aload_n hx hb dX11_cell_0 rfl (lv_at hl 0 rfl) ?_
  refine lv_iconst (v := 0) hx hb dX11_cell_1 (by decide) ?_
  refine va_put (D := (dC, dI)) (ci := 11) (v := .int 0) (ty := .int) (C := RX11) (T := TX11) (N := 39) hx hb hts hiX11 tyX11 tyX11_ok nmX11 hown hK hP hD hS 0 rfl rfl 0 (by decide) (hts (.fieldLink RX11 102 "TributePitchesModel" "fault" "I") (by decide +kernel)) (fun _ h9 => h9) rfl (by decide +kernel) rfl rfl (Nat.le_of_ble_eq_true rfl) dX11_cell_2 (fun H locs hP hD hS => ?_)
  have hP : va_P (dC, dI) vwCl [(qm, .inr (11, [.int 0, w1, w2, w3, w4, w5, w6, .ref ss, w8, w9, w10, w11, w12, w13, w14, w15, w16, w17, w18, w19, w20, w21, w22, w23, w24, w25, w26, w27, w28, w29, w30, w31, w32, w33, w34, w35, w36, w37, w38])), (ss, .inl (cI, 4, .inl (fun _ => (-1))))] H := hP
  have hD : va_D _ [(qm, .inr (11, [.int 0, w1, w2, w3, w4, w5, w6, .ref ss, w8, w9, w10, w11, w12, w13, w14, w15, w16, w17, w18, w19, w20, w21, w22, w23, w24, w25, w26, w27, w28, w29, w30, w31, w32, w33, w34, w35, w36, w37, w38])), (ss, .inl (cI, 4, .inl (fun _ => (-1))))] := hD
  refine lv_iload_n hx hb dX11_cell_5 rfl (lv_at hl 1 rfl) ?_
  refine vp_callSi (va_Run.run (va_runS (As := [.int k]) (rest := []) ⟨hx, hb, hml, hown, hts⟩ (c_X11_noSheet l k ) (va_cwS 1 hts gX11_cell_X11_noSheet rfl rfl rfl (by decide +kernel) ⟨Nat.le_of_ble_eq_true rfl, Nat.le_of_ble_eq_true rfl⟩) (p0_preS hN) rfl rfl hl.1 rfl (lv_room (Nat.le_of_ble_eq_true rfl)) dX11_cell_6 ⟨Nat.le_of_ble_eq_true rfl, Nat.le_of_ble_eq_true rfl⟩)) (fun r1 hr1 => ?_)
  have hr1 : r1 = if ¬ (0 ≤ k ∧ k ≤ 3) then 1 else 0 := hr1
  refine lv_if_ne (tgt := 24) hx hb dX11_cell_9 (by decide) (fun c2 => ?_) (fun c2 => ?_)
  · skip
    have c2 := (fa_bool_prop hr1).2.mp c2
    refine vp_callSl (va_Run.run (va_runS (As := []) (rest := []) ⟨hx, hb, hml, hown, hts⟩ (c_X11_lost l  ) (va_cwS 0 hts gX11_cell_X11_lost rfl rfl rfl (by decide +kernel) ⟨Nat.le_of_ble_eq_true rfl, Nat.le_of_ble_eq_true rfl⟩) (p0_preS hN) rfl rfl hl.1 rfl (lv_room (Nat.le_of_ble_eq_true rfl)) dX11_cell_24 ⟨Nat.le_of_ble_eq_true rfl, Nat.le_of_ble_eq_true rfl⟩)) (fun r3 hr3 => ?_)
    have hr3 : r3 = (-9223372036854775808) := hr3
    subst hr3
    exact W.lret (v := (-9223372036854775808)) hx hb hr (fun t ht hW => ⟨⟨(-9223372036854775808), (), rfl, rfl, trivial⟩, hS.F ht⟩) hS.2.2 dX11_cell_27
  · skip
    have c2 := (fa_bool_prop hr1).1.mp c2
    have c2 := Decidable.not_not.mp c2
    refine lv_iload_n hx hb dX11_cell_12 rfl (lv_at hl 3 rfl) ?_
    refine lv_i2l (v := ln.toInt64) hx hb dX11_cell_13 rfl ?_
    refine lv_lconst (v := 0) hx hb dX11_cell_14 (by decide) ?_
    refine lv_ldc2 (v := 2) hx hb hown (hts (.constantLong RX11 151 (2)) (by decide +kernel)) dX11_cell_15 ?_
    refine vp_callSi (va_Run.run (va_runS (As := [.long ln.toInt64, .long 0, .long 2]) (rest := []) ⟨hx, hb, hml, hown, hts⟩ (c_X11_in l ln.toInt64 0 2 ) (va_cwS 3 hts gX11_cell_X11_in rfl rfl rfl (by decide +kernel) ⟨Nat.le_of_ble_eq_true rfl, Nat.le_of_ble_eq_true rfl⟩) (p0_preS hN) rfl rfl hl.1 rfl (lv_room (Nat.le_of_ble_eq_true rfl)) dX11_cell_18 ⟨Nat.le_of_ble_eq_true rfl, Nat.le_of_ble_eq_true rfl⟩)) (fun r4 hr4 => ?_)
    have hr4 : r4 = if 0 ≤ ln.toInt64 ∧ ln.toInt64 ≤ 2 then 1 else 0 := hr4
    have hr4 := hr4.trans (in_w _ 0 2 (by decide) (by decide))
    refine lv_if_ne (tgt := 28) hx hb dX11_cell_21 (by decide) (fun c5 => ?_) (fun c5 => ?_)
    · skip
      have c5 := (fa_bool_prop hr4).2.mp c5
      refine lv_aload_n hx hb dX11_cell_28 rfl (lv_at hl 0 rfl) ?_
      refine va_get (D := (dC, dI)) (ci := 11) (v := .ref ss) (C := RX11) (T := TX11) (N := 39) hx hb hts hiX11 hown hK hP 0 rfl rfl 7 (by decide) (hts (.fieldLink RX11 22 "TributePitchesModel" "sheetSize" "[I") (by decide +kernel)) (fun _ h9 => h9) rfl dX11_cell_29 ?_
      refine lv_iload_n hx hb dX11_cell_32 rfl (lv_at hl 1 rfl) ?_
      refine va_iald hx hb hK hP 1 0 rfl rfl (in4 c2) dX11_cell_33 ?_
      refine W.eq (g2 := F0 m 34 ls [.int ((-1)]) rfl ?_
      refine lv_if_lt (tgt := 53) hx hb dX11_cell_34 (by decide) (fun c6 => ?_) (fun c6 => ?_)
      · skip
        refine lv_aload_n hx hb dX11_cell_53 rfl (lv_at hl 0 rfl) ?_
        refine lv_iload_n hx hb dX11_cell_54 rfl (lv_at hl 1 rfl) ?_
        refine lv_iload_n hx hb dX11_cell_55 rfl (lv_at hl 2 rfl) ?_
        have hPc := hP.sub (ws' := [(qm, .inr (11, [.int 0, w1, w2, w3, w4, w5, w6, .ref ss, w8, w9, w10, w11, w12, w13, w14, w15, w16, w17, w18, w19, w20, w21, w22, w23, w24, w25, w26, w27, w28, w29, w30, w31, w32, w33, w34, w35, w36, w37, w38])), (ss, .inl (cI, 4, .inl (fun _ => (-1))))]) [0, 1] rfl
        have hDc := hD.sub (ws' := [(qm, .inr (11, [.int 0, w1, w2, w3, w4, w5, w6, .ref ss, w8, w9, w10, w11, w12, w13, w14, w15, w16, w17, w18, w19, w20, w21, w22, w23, w24, w25, w26, w27, w28, w29, w30, w31, w32, w33, w34, w35, w36, w37, w38])), (ss, .inl (cI, 4, .inl (fun _ => (-1))))]) [0, 1] (by decide) rfl
        have hKc := hK.sub (tys' := [(cI, .int)]) [0] rfl
        refine vp_callSi (va_Run.run (va_runV (As := [.int k, .int i]) (rest := []) ⟨hx, hb, hml, hown, hts⟩ (c_X11_noCell l dC dI cI _ qm (.int 0) w1 w2 w3 w4 w5 w6 w8 w9 w10 w11 w12 w13 w14 w15 w16 w17 w18 w19 w20 w21 w22 w23 w24 w25 w26 w27 w28 w29 w30 w31 w32 w33 w34 w35 w36 w37 w38 ss k i c2) (cwV 2 hts gX11_cell_X11_noCell rfl rfl rfl (by decide +kernel) ⟨Nat.le_of_ble_eq_true rfl, Nat.le_of_ble_eq_true rfl⟩) (pw_preV (va_recv hKc hPc (ci := 11) (q0 := 0) rfl rfl) hPc hKc hDc hN) rfl rfl hl.1 rfl (lv_room (Nat.le_of_ble_eq_true rfl)) dX11_cell_56 ⟨Nat.le_of_ble_eq_true rfl, Nat.le_of_ble_eq_true rfl⟩)) (fun r7 hr7 => ?_)
        have hr7 : r7 = 1 := hr7
        subst hr7
        refine lv_if_le (tgt := 75) hx hb dX11_cell_59 (by decide) (fun c8 => ?_) (fun c8 => ?_)
        · exact absurd c8 (by decide)
        · skip
          refine lv_aload_n hx hb dX11_cell_62 rfl (lv_at hl 0 rfl) ?_
          refine lv_aload_n hx hb dX11_cell_63 rfl (lv_at hl 0 rfl) ?_
          refine lv_iload_n hx hb dX11_cell_64 rfl (lv_at hl 1 rfl) ?_
          refine lv_iload_n hx hb dX11_cell_65 rfl (lv_at hl 2 rfl) ?_
          have hPc := hP.sub (ws' := [(qm, .inr (11, [.int 0, w1, w2, w3, w4, w5, w6, .ref ss, w8, w9, w10, w11, w12, w13, w14, w15, w16, w17, w18, w19, w20, w21, w22, w23, w24, w25, w26, w27, w28, w29, w30, w31, w32, w33, w34, w35, w36, w37, w38])), (ss, .inl (cI, 4, .inl (fun _ => (-1))))]) [0, 1] rfl
          have hDc := hD.sub (ws' := [(qm, .inr (11, [.int 0, w1, w2, w3, w4, w5, w6, .ref ss, w8, w9, w10, w11, w12, w13, w14, w15, w16, w17, w18, w19, w20, w21, w22, w23, w24, w25, w26, w27, w28, w29, w30, w31, w32, w33, w34, w35, w36, w37, w38])), (ss, .inl (cI, 4, .inl (fun _ => (-1))))]) [0, 1] (by decide) rfl
          have hKc := hK.sub (tys' := [(cI, .int)]) [0] rfl
          refine vp_callSi (va_Run.run (va_runV (As := [.int k, .int i]) (rest := [.ref qm]) ⟨hx, hb, hml, hown, hts⟩ (c_X11_noCell l dC dI cI _ qm (.int 0) w1 w2 w3 w4 w5 w6 w8 w9 w10 w11 w12 w13 w14 w15 w16 w17 w18 w19 w20 w21 w22 w23 w24 w25 w26 w27 w28 w29 w30 w31 w32 w33 w34 w35 w36 w37 w38 ss k i c2) (cwV 2 hts gX11_cell_X11_noCell rfl rfl rfl (by decide +kernel) ⟨Nat.le_of_ble_eq_true rfl, Nat.le_of_ble_eq_true rfl⟩) (pw_preV (va_recv hKc hPc (ci := 11) (q0 := 0) rfl rfl) hPc hKc hDc hN) rfl rfl hl.1 rfl (lv_room (Nat.le_of_ble_eq_true rfl)) dX11_cell_66 ⟨Nat.le_of_ble_eq_true rfl, Nat.le_of_ble_eq_true rfl⟩)) (fun r9 hr9 => ?_)
          have hr9 : r9 = 1 := hr9
          subst hr9
          have hPc := hP.sub (ws' := [(qm, .inr (11, [.int 0, w1, w2, w3, w4, w5, w6, .ref ss, w8, w9, w10, w11, w12, w13, w14, w15, w16, w17, w18, w19, w20, w21, w22, w23, w24, w25, w26, w27, w28, w29, w30, w31, w32, w33, w34, w35, w36, w37, w38]))]) [0] rfl
          have hDc := hD.sub (ws' := [(qm, .inr (11, [.int 0, w1, w2, w3, w4, w5, w6, .ref ss, w8, w9, w10, w11, w12, w13, w14, w15, w16, w17, w18, w19, w20, w21, w22, w23, w24, w25, w26, w27, w28, w29, w30, w31, w32, w33, w34, w35, w36, w37, w38]))]) [0] (by decide) rfl
          have hKc := hK.sub (tys' := []) [] rfl
          have hFc := va_free (wc := [(qm, .inr (11, [.int 0, w1, w2, w3, w4, w5, w6, .ref ss, w8, w9, w10, w11, w12, w13, w14, w15, w16, w17, w18, w19, w20, w21, w22, w23, w24, w25, w26, w27, w28, w29, w30, w31, w32, w33, w34, w35, w36, w37, w38]))]) hD hS hA [0] rfl
          refine va_calll (va_runV (As := [.int 1]) (rest := []) ⟨hx, hb, hml, hown, hts⟩ (c_X11_failedLong l dC dI  _ qm (.int 0) w1 w2 w3 w4 w5 w6 (.ref ss) w8 w9 w10 w11 w12 w13 w14 w15 w16 w17 w18 w19 w20 w21 w22 w23 w24 w25 w26 w27 w28 w29 w30 w31 w32 w33 w34 w35 w36 w37 w38 1 ) (cwV 1 hts gX11_cell_X11_failedLong rfl rfl rfl (by decide +kernel) ⟨Nat.le_of_ble_eq_true rfl, Nat.le_of_ble_eq_true rfl⟩) (pw_preV (va_recv hKc hPc (ci := 11) (q0 := 0) rfl rfl) hPc hKc hDc hN) rfl rfl hl.1 rfl (lv_room (Nat.le_of_ble_eq_true rfl)) dX11_cell_69 ⟨Nat.le_of_ble_eq_true rfl, Nat.le_of_ble_eq_true rfl⟩) hS (fun q _ h => hFc q h) hFc (fun r10 u t H1 locs ht hvm hw hB hz1 hk1 hS => ?_)
          have hr10 : r10 = (-9223372036854775808) := hw
          obtain ⟨hP1, hK1, hD1⟩ := hB
          rw [ht] at hP1
          obtain ⟨hP, hD⟩ := va_join (wr := [(ss, .inl (cI, 4, .inl (fun _ => (-1))))]) (w1 := [(qm, .inr (11, [.int 1, w1, w2, w3, w4, w5, w6, .ref ss, w8, w9, w10, w11, w12, w13, w14, w15, w16, w17, w18, w19, w20, w21, w22, w23, w24, w25, w26, w27, w28, w29, w30, w31, w32, w33, w34, w35, w36, w37, w38]))]) hP hD [0] [1] rfl rfl (by decide) (by decide) hk1 hFc hP1 hD1
          generalize H1 = H at hP hS ⊢
          have hP : va_P (dC, dI) vwCl [(ss, .inl (cI, 4, .inl (fun _ => (-1)))), (qm, .inr (11, [.int 1, w1, w2, w3, w4, w5, w6, .ref ss, w8, w9, w10, w11, w12, w13, w14, w15, w16, w17, w18, w19, w20, w21, w22, w23, w24, w25, w26, w27, w28, w29, w30, w31, w32, w33, w34, w35, w36, w37, w38]))] H := hP
          have hD : va_D _ [(ss, .inl (cI, 4, .inl (fun _ => (-1)))), (qm, .inr (11, [.int 1, w1, w2, w3, w4, w5, w6, .ref ss, w8, w9, w10, w11, w12, w13, w14, w15, w16, w17, w18, w19, w20, w21, w22, w23, w24, w25, w26, w27, w28, w29, w30, w31, w32, w33, w34, w35, w36, w37, w38]))] := hD
          subst hr10
          refine lv_goto (tgt := 87) hx hb dX11_cell_72 (by decide) ?_
          exact W.lret (v := (-9223372036854775808)) hx hb hr (fun t ht hW => ⟨⟨(-9223372036854775808), (), rfl, rfl, trivial⟩, hS.F ht⟩) hS.2.2 dX11_cell_87
      · exact absurd c6 (by decide)
    · skip
      have c5 := (fa_bool_prop hr4).1.mp c5
      refine vp_callSl (va_Run.run (va_runS (As := []) (rest := []) ⟨hx, hb, hml, hown, hts⟩ (c_X11_lost l  ) (va_cwS 0 hts gX11_cell_X11_lost rfl rfl rfl (by decide +kernel) ⟨Nat.le_of_ble_eq_true rfl, Nat.le_of_ble_eq_true rfl⟩) (p0_preS hN) rfl rfl hl.1 rfl (lv_room (Nat.le_of_ble_eq_true rfl)) dX11_cell_24 ⟨Nat.le_of_ble_eq_true rfl, Nat.le_of_ble_eq_true rfl⟩)) (fun r11 hr11 => ?_)
      have hr11 : r11 = (-9223372036854775808) := hr11
      subst hr11
      exact W.lret (v := (-9223372036854775808)) hx hb hr (fun t ht hW => ⟨⟨(-9223372036854775808), (), rfl, rfl, trivial⟩, hS.F ht⟩) hS.2.2 dX11_cell_27
set_option maxHeartbeats 4000000 in
set_option maxRecDepth 100000 in
theorem c_X11_copy (l : Launch) (dC : Nat → ClassId) (dI : Nat → Nat → Nat) (cI : ClassId) (sz : Nat) (qm : Nat) (w0 : Value) (w1 : Value) (w2 : Value) (w3 : Value) (w4 : Value) (w5 : Value) (w6 : Value) (w8 : Value) (w9 : Value) (w10 : Value) (w11 : Value) (w12 : Value) (w13 : Value) (w14 : Value) (w15 : Value) (w16 : Value) (w17 : Value) (w18 : Value) (w19 : Value) (w20 : Value) (w21 : Value) (w22 : Value) (w23 : Value) (w24 : Value) (w25 : Value) (w26 : Value) (w27 : Value) (w28 : Value) (w29 : Value) (w30 : Value) (w31 : Value) (w32 : Value) (w33 : Value) (w34 : Value) (w35 : Value) (w36 : Value) (w37 : Value) (w38 : Value) (ss : Nat) (k : Int32) (i : Int32) (ot : Int32) (j : Int32) (n : Int32)  : Met l yX11_copy wsX11_copy ({ frames := 3, cells := 0, slots := 0, locals := 90 }) (pw (dC, dI) [(cI, .int)] [(qm, .inr (11, [w0, w1, w2, w3, w4, w5, w6, .ref ss, w8, w9, w10, w11, w12, w13, w14, w15, w16, w17, w18, w19, w20, w21, w22, w23, w24, w25, w26, w27, w28, w29, w30, w31, w32, w33, w34, w35, w36, w37, w38])), (ss, .inl (cI, 4, .inl (fun _ => (-1))))] sz [.ref qm, .int k, .int i, .int ot, .int j, .int n]) (va_Qi (fun r (_ : Unit) => r = sp_copy k ot) (fun _ _ => True) (va_A [(qm, .inr (11, [w0, w1, w2, w3, w4, w5, w6, .ref ss, w8, w9, w10, w11, w12, w13, w14, w15, w16, w17, w18, w19, w20, w21, w22, w23, w24, w25, w26, w27, w28, w29, w30, w31, w32, w33, w34, w35, w36, w37, w38])), (ss, .inl (cI, 4, .inl (fun _ => (-1))))] sz)) 0 0 (va_A [(qm, .inr (11, [w0, w1, w2, w3, w4, w5, w6, .ref ss, w8, w9, w10, w11, w12, w13, w14, w15, w16, w17, w18, w19, w20, w21, w22, w23, w24, w25, w26, w27, w28, w29, w30, w31, w32, w33, w34, w35, w36, w37, w38])), (ss, .inl (cI, 4, .inl (fun _ => (-1))))] sz) := by
  refine pw_met (cc := cX11_copy) (maxL := 7) (ret := (some .int)) (by decide) rfl (Nat.le_of_ble_eq_true rfl) ?_
  intro p e s m below meth c0 hx hb hr hml hown hlocks hnm hts hP hK hD hN hsz hA hS ls hl
  subst hsz
  have hl : lv_has ls 7 [(0, .ref qm), (1, .int k), (2, .int i), (3, .int ot), (4, .int j), (5, .int n)] := hl
  have hiX11 : ∀ w ∈ wsX110, w ∈ wsX11_copy := by decide +kernel
  refine lv_iload_n hx hb dX11_copy_0 rfl (lv_at hl 1 rfl) ?_
  refine vp_callSi (va_Run.run (va_runS (As := [.int k]) (rest := []) ⟨hx, hb, hml, hown, hts⟩ (c_X11_noSheet l k ) (va_cwS 1 hts gX11_copy_X11_noSheet rfl rfl rfl (by decide +kernel) ⟨Nat.le_of_ble_eq_true rfl, Nat.le_of_ble_eq_true rfl⟩) (p0_preS hN) rfl rfl hl.1 rfl (lv_room (Nat.le_of_ble_eq_true rfl)) dX11_copy_1 ⟨Nat.le_of_ble_eq_true rfl, Nat.le_of_ble_eq_true rfl⟩)) (fun r1 hr1 => ?_)
  have hr1 : r1 = if ¬ (0 ≤ k ∧ k ≤ 3) then 1 else 0 := hr1
  refine lv_if_ne (tgt := 14) hx hb dX11_copy_4 (by decide) (fun c2 => ?_) (fun c2 => ?_)
  · skip
    have c2 := (fa_bool_prop hr1).2.mp c2
    refine lv_aload_n hx hb dX11_copy_14 rfl (lv_at hl 0 rfl) ?_
    refine lv_iconst (v := (-1)) hx hb dX11_copy_15 (by decide) ?_
    have hPc := hP.sub (ws' := [(qm, .inr (11, [w0, w1, w2, w3, w4, w5, w6, .ref ss, w8, w9, w10, w11, w12, w13, w14, w15, w16, w17, w18, w19, w20, w21, w22, w23, w24, w25, w26, w27, w28, w29, w30, w31, w32, w33, w34, w35, w36, w37, w38]))]) [0] rfl
    have hDc := hD.sub (ws' := [(qm, .inr (11, [w0, w1, w2, w3, w4, w5, w6, .ref ss, w8, w9, w10, w11, w12, w13, w14, w15, w16, w17, w18, w19, w20, w21, w22, w23, w24, w25, w26, w27, w28, w29, w30, w31, w32, w33, w34, w35, w36, w37, w38]))]) [0] (by decide) rfl
    have hKc := hK.sub (tys' := []) [] rfl
    have hFc := va_free (wc := [(qm, .inr (11, [w0, w1, w2, w3, w4, w5, w6, .ref ss, w8, w9, w10, w11, w12, w13, w14, w15, w16, w17, w18, w19, w20, w21, w22, w23, w24, w25, w26, w27, w28, w29, w30, w31, w32, w33, w34, w35, w36, w37, w38]))]) hD hS hA [0] rfl
    refine va_calli (va_runV (As := [.int (-1)]) (rest := []) ⟨hx, hb, hml, hown, hts⟩ (c_X11_refused l dC dI  _ qm w0 w1 w2 w3 w4 w5 w6 (.ref ss) w8 w9 w10 w11 w12 w13 w14 w15 w16 w17 w18 w19 w20 w21 w22 w23 w24 w25 w26 w27 w28 w29 w30 w31 w32 w33 w34 w35 w36 w37 w38 (-1) ) (cwV 1 hts gX11_copy_X11_refused rfl rfl rfl (by decide +kernel) ⟨Nat.le_of_ble_eq_true rfl, Nat.le_of_ble_eq_true rfl⟩) (pw_preV (va_recv hKc hPc (ci := 11) (q0 := 0) rfl rfl) hPc hKc hDc hN) rfl rfl hl.1 rfl (lv_room (Nat.le_of_ble_eq_true rfl)) dX11_copy_16 ⟨Nat.le_of_ble_eq_true rfl, Nat.le_of_ble_eq_true rfl⟩) hS (fun q _ h => hFc q h) hFc (fun r3 u t H1 locs ht hvm hw hB hz1 hk1 hS => ?_)
    have hr3 : r3 = (-1) := hw
    obtain ⟨hP1, hK1, hD1⟩ := hB
    rw [ht] at hP1
    obtain ⟨hP, hD⟩ := va_join (wr := [(ss, .inl (cI, 4, .inl (fun _ => (-1))))]) (w1 := [(qm, .inr (11, [.int 0, w1, w2, w3, w4, w5, w6, .ref ss, w8, w9, w10, w11, w12, w13, w14, w15, w16, w17, w18, w19, w20, w21, w22, w23, w24, w25, w26, w27, w28, w29, w30, w31, w32, w33, w34, w35, w36, w37, w38]))]) hP hD [0] [1] rfl rfl (by decide) (by decide) hk1 hFc hP1 hD1
    generalize H1 = H at hP hS ⊢
    have hP : va_P (dC, dI) vwCl [(ss, .inl (cI, 4, .inl (fun _ => (-1)))), (qm, .inr (11, [.int 0, w1, w2, w3, w4, w5, w6, .ref ss, w8, w9, w10, w11, w12, w13, w14, w15, w16, w17, w18, w19, w20, w21, w22, w23, w24, w25, w26, w27, w28, w29, w30, w31, w32, w33, w34, w35, w36, w37, w38]))] H := hP
    have hD : va_D _ [(ss, .inl (cI, 4, .inl (fun _ => (-1)))), (qm, .inr (11, [.int 0, w1, w2, w3, w4, w5, w6, .ref ss, w8, w9, w10, w11, w12, w13, w14, w15, w16, w17, w18, w19, w20, w21, w22, w23, w24, w25, w26, w27, w28, w29, w30, w31, w32, w33, w34, w35, w36, w37, w38]))] := hD
    exact W.iret (v := r3) hx hb hr (fun t ht hW => ⟨⟨r3, (), rfl, (by rw [hr3]; simp [sp_copy, c2]), trivial⟩, hS.F ht⟩) hS.2.2 dX11_copy_19
  · skip
    have c2 := (fa_bool_prop hr1).1.mp c2
    have c2 := Decidable.not_not.mp c2
    refine lv_iload_n hx hb dX11_copy_7 rfl (lv_at hl 3 rfl) ?_
    refine vp_callSi (va_Run.run (va_runS (As := [.int ot]) (rest := []) ⟨hx, hb, hml, hown, hts⟩ (c_X11_noSheet l ot ) (va_cwS 1 hts gX11_copy_X11_noSheet rfl rfl rfl (by decide +kernel) ⟨Nat.le_of_ble_eq_true rfl, Nat.le_of_ble_eq_true rfl⟩) (p0_preS hN) rfl rfl hl.1 rfl (lv_room (Nat.le_of_ble_eq_true rfl)) dX11_copy_8 ⟨Nat.le_of_ble_eq_true rfl, Nat.le_of_ble_eq_true rfl⟩)) (fun r4 hr4 => ?_)
    have hr4 : r4 = if ¬ (0 ≤ ot ∧ ot ≤ 3) then 1 else 0 := hr4
    refine lv_if_eq (tgt := 20) hx hb dX11_copy_11 (by decide) (fun c5 => ?_) (fun c5 => ?_)
    · skip
      have c5 := (fa_bool_prop hr4).1.mp c5
      have c5 := Decidable.not_not.mp c5
      refine lv_aload_n hx hb dX11_copy_20 rfl (lv_at hl 0 rfl) ?_
      refine va_get (D := (dC, dI)) (ci := 11) (v := .ref ss) (C := RX11) (T := TX11) (N := 39) hx hb hts hiX11 hown hK hP 0 rfl rfl 7 (by decide) (hts (.fieldLink RX11 22 "TributePitchesModel" "sheetSize" "[I") (by decide +kernel)) (fun _ h9 => h9) rfl dX11_copy_21 ?_
      refine lv_iload_n hx hb dX11_copy_24 rfl (lv_at hl 1 rfl) ?_
      refine va_iald hx hb hK hP 1 0 rfl rfl (in4 c2) dX11_copy_25 ?_
      refine W.eq (g2 := F0 m 26 ls [.int ((-1)]) rfl ?_
      refine lv_if_lt (tgt := 38) hx hb dX11_copy_26 (by decide) (fun c6 => ?_) (fun c6 => ?_)
      · skip
        refine lv_aload_n hx hb dX11_copy_38 rfl (lv_at hl 0 rfl) ?_
        refine lv_iconst (v := 1) hx hb dX11_copy_39 (by decide) ?_
        have hPc := hP.sub (ws' := [(qm, .inr (11, [w0, w1, w2, w3, w4, w5, w6, .ref ss, w8, w9, w10, w11, w12, w13, w14, w15, w16, w17, w18, w19, w20, w21, w22, w23, w24, w25, w26, w27, w28, w29, w30, w31, w32, w33, w34, w35, w36, w37, w38]))]) [0] rfl
        have hDc := hD.sub (ws' := [(qm, .inr (11, [w0, w1, w2, w3, w4, w5, w6, .ref ss, w8, w9, w10, w11, w12, w13, w14, w15, w16, w17, w18, w19, w20, w21, w22, w23, w24, w25, w26, w27, w28, w29, w30, w31, w32, w33, w34, w35, w36, w37, w38]))]) [0] (by decide) rfl
        have hKc := hK.sub (tys' := []) [] rfl
        have hFc := va_free (wc := [(qm, .inr (11, [w0, w1, w2, w3, w4, w5, w6, .ref ss, w8, w9, w10, w11, w12, w13, w14, w15, w16, w17, w18, w19, w20, w21, w22, w23, w24, w25, w26, w27, w28, w29, w30, w31, w32, w33, w34, w35, w36, w37, w38]))]) hD hS hA [0] rfl
        refine va_calli (va_runV (As := [.int 1]) (rest := []) ⟨hx, hb, hml, hown, hts⟩ (c_X11_failed l dC dI  _ qm w0 w1 w2 w3 w4 w5 w6 (.ref ss) w8 w9 w10 w11 w12 w13 w14 w15 w16 w17 w18 w19 w20 w21 w22 w23 w24 w25 w26 w27 w28 w29 w30 w31 w32 w33 w34 w35 w36 w37 w38 1 ) (cwV 1 hts gX11_copy_X11_failed rfl rfl rfl (by decide +kernel) ⟨Nat.le_of_ble_eq_true rfl, Nat.le_of_ble_eq_true rfl⟩) (pw_preV (va_recv hKc hPc (ci := 11) (q0 := 0) rfl rfl) hPc hKc hDc hN) rfl rfl hl.1 rfl (lv_room (Nat.le_of_ble_eq_true rfl)) dX11_copy_40 ⟨Nat.le_of_ble_eq_true rfl, Nat.le_of_ble_eq_true rfl⟩) hS (fun q _ h => hFc q h) hFc (fun r7 u t H1 locs ht hvm hw hB hz1 hk1 hS => ?_)
        have hr7 : r7 = -10 - 1 := hw
        obtain ⟨hP1, hK1, hD1⟩ := hB
        rw [ht] at hP1
        obtain ⟨hP, hD⟩ := va_join (wr := [(ss, .inl (cI, 4, .inl (fun _ => (-1))))]) (w1 := [(qm, .inr (11, [.int 1, w1, w2, w3, w4, w5, w6, .ref ss, w8, w9, w10, w11, w12, w13, w14, w15, w16, w17, w18, w19, w20, w21, w22, w23, w24, w25, w26, w27, w28, w29, w30, w31, w32, w33, w34, w35, w36, w37, w38]))]) hP hD [0] [1] rfl rfl (by decide) (by decide) hk1 hFc hP1 hD1
        generalize H1 = H at hP hS ⊢
        have hP : va_P (dC, dI) vwCl [(ss, .inl (cI, 4, .inl (fun _ => (-1)))), (qm, .inr (11, [.int 1, w1, w2, w3, w4, w5, w6, .ref ss, w8, w9, w10, w11, w12, w13, w14, w15, w16, w17, w18, w19, w20, w21, w22, w23, w24, w25, w26, w27, w28, w29, w30, w31, w32, w33, w34, w35, w36, w37, w38]))] H := hP
        have hD : va_D _ [(ss, .inl (cI, 4, .inl (fun _ => (-1)))), (qm, .inr (11, [.int 1, w1, w2, w3, w4, w5, w6, .ref ss, w8, w9, w10, w11, w12, w13, w14, w15, w16, w17, w18, w19, w20, w21, w22, w23, w24, w25, w26, w27, w28, w29, w30, w31, w32, w33, w34, w35, w36, w37, w38]))] := hD
        exact W.iret (v := r7) hx hb hr (fun t ht hW => ⟨⟨r7, (), rfl, (by rw [hr7]; simp [sp_copy, c2, c5, c6]), trivial⟩, hS.F ht⟩) hS.2.2 dX11_copy_43
      · exact absurd c6 (by decide)
    · skip
      have c5 := (fa_bool_prop hr4).2.mp c5
      refine lv_aload_n hx hb dX11_copy_14 rfl (lv_at hl 0 rfl) ?_
      refine lv_iconst (v := (-1)) hx hb dX11_copy_15 (by decide) ?_
      have hPc := hP.sub (ws' := [(qm, .inr (11, [w0, w1, w2, w3, w4, w5, w6, .ref ss, w8, w9, w10, w11, w12, w13, w14, w15, w16, w17, w18, w19, w20, w21, w22, w23, w24, w25, w26, w27, w28, w29, w30, w31, w32, w33, w34, w35, w36, w37, w38]))]) [0] rfl
      have hDc := hD.sub (ws' := [(qm, .inr (11, [w0, w1, w2, w3, w4, w5, w6, .ref ss, w8, w9, w10, w11, w12, w13, w14, w15, w16, w17, w18, w19, w20, w21, w22, w23, w24, w25, w26, w27, w28, w29, w30, w31, w32, w33, w34, w35, w36, w37, w38]))]) [0] (by decide) rfl
      have hKc := hK.sub (tys' := []) [] rfl
      have hFc := va_free (wc := [(qm, .inr (11, [w0, w1, w2, w3, w4, w5, w6, .ref ss, w8, w9, w10, w11, w12, w13, w14, w15, w16, w17, w18, w19, w20, w21, w22, w23, w24, w25, w26, w27, w28, w29, w30, w31, w32, w33, w34, w35, w36, w37, w38]))]) hD hS hA [0] rfl
      refine va_calli (va_runV (As := [.int (-1)]) (rest := []) ⟨hx, hb, hml, hown, hts⟩ (c_X11_refused l dC dI  _ qm w0 w1 w2 w3 w4 w5 w6 (.ref ss) w8 w9 w10 w11 w12 w13 w14 w15 w16 w17 w18 w19 w20 w21 w22 w23 w24 w25 w26 w27 w28 w29 w30 w31 w32 w33 w34 w35 w36 w37 w38 (-1) ) (cwV 1 hts gX11_copy_X11_refused rfl rfl rfl (by decide +kernel) ⟨Nat.le_of_ble_eq_true rfl, Nat.le_of_ble_eq_true rfl⟩) (pw_preV (va_recv hKc hPc (ci := 11) (q0 := 0) rfl rfl) hPc hKc hDc hN) rfl rfl hl.1 rfl (lv_room (Nat.le_of_ble_eq_true rfl)) dX11_copy_16 ⟨Nat.le_of_ble_eq_true rfl, Nat.le_of_ble_eq_true rfl⟩) hS (fun q _ h => hFc q h) hFc (fun r8 u t H1 locs ht hvm hw hB hz1 hk1 hS => ?_)
      have hr8 : r8 = (-1) := hw
      obtain ⟨hP1, hK1, hD1⟩ := hB
      rw [ht] at hP1
      obtain ⟨hP, hD⟩ := va_join (wr := [(ss, .inl (cI, 4, .inl (fun _ => (-1))))]) (w1 := [(qm, .inr (11, [.int 0, w1, w2, w3, w4, w5, w6, .ref ss, w8, w9, w10, w11, w12, w13, w14, w15, w16, w17, w18, w19, w20, w21, w22, w23, w24, w25, w26, w27, w28, w29, w30, w31, w32, w33, w34, w35, w36, w37, w38]))]) hP hD [0] [1] rfl rfl (by decide) (by decide) hk1 hFc hP1 hD1
      generalize H1 = H at hP hS ⊢
      have hP : va_P (dC, dI) vwCl [(ss, .inl (cI, 4, .inl (fun _ => (-1)))), (qm, .inr (11, [.int 0, w1, w2, w3, w4, w5, w6, .ref ss, w8, w9, w10, w11, w12, w13, w14, w15, w16, w17, w18, w19, w20, w21, w22, w23, w24, w25, w26, w27, w28, w29, w30, w31, w32, w33, w34, w35, w36, w37, w38]))] H := hP
      have hD : va_D _ [(ss, .inl (cI, 4, .inl (fun _ => (-1)))), (qm, .inr (11, [.int 0, w1, w2, w3, w4, w5, w6, .ref ss, w8, w9, w10, w11, w12, w13, w14, w15, w16, w17, w18, w19, w20, w21, w22, w23, w24, w25, w26, w27, w28, w29, w30, w31, w32, w33, w34, w35, w36, w37, w38]))] := hD
      exact W.iret (v := r8) hx hb hr (fun t ht hW => ⟨⟨r8, (), rfl, (by rw [hr8]; simp [sp_copy, c2, c5]), trivial⟩, hS.F ht⟩) hS.2.2 dX11_copy_19
set_option maxHeartbeats 4000000 in
set_option maxRecDepth 100000 in
theorem c_X11_chart (l : Launch) (dC : Nat → ClassId) (dI : Nat → Nat → Nat) (cI : ClassId) (sz : Nat) (qm : Nat) (w0 : Value) (w1 : Value) (w2 : Value) (w3 : Value) (w4 : Value) (w5 : Value) (w6 : Value) (w8 : Value) (w9 : Value) (w10 : Value) (w11 : Value) (w12 : Value) (w13 : Value) (w14 : Value) (w15 : Value) (w16 : Value) (w17 : Value) (w18 : Value) (w19 : Value) (w20 : Value) (w21 : Value) (w22 : Value) (w23 : Value) (w24 : Value) (w25 : Value) (w26 : Value) (w27 : Value) (w28 : Value) (w29 : Value) (w30 : Value) (w31 : Value) (w32 : Value) (w33 : Value) (w34 : Value) (w35 : Value) (w36 : Value) (w37 : Value) (w38 : Value) (ss : Nat) (k : Int32) (ln : Int32) (i : Int32) (n : Int32) (sv : Int32)  : Met l yX11_chart wsX11_chart ({ frames := 3, cells := 0, slots := 0, locals := 90 }) (pw (dC, dI) [(cI, .int)] [(qm, .inr (11, [w0, w1, w2, w3, w4, w5, w6, .ref ss, w8, w9, w10, w11, w12, w13, w14, w15, w16, w17, w18, w19, w20, w21, w22, w23, w24, w25, w26, w27, w28, w29, w30, w31, w32, w33, w34, w35, w36, w37, w38])), (ss, .inl (cI, 4, .inl (fun _ => (-1))))] sz [.ref qm, .int k, .int ln, .int i, .int n, .int sv]) (va_Qi (fun r (_ : Unit) => r = sp_chart k ln sv) (fun _ _ => True) (va_A [(qm, .inr (11, [w0, w1, w2, w3, w4, w5, w6, .ref ss, w8, w9, w10, w11, w12, w13, w14, w15, w16, w17, w18, w19, w20, w21, w22, w23, w24, w25, w26, w27, w28, w29, w30, w31, w32, w33, w34, w35, w36, w37, w38])), (ss, .inl (cI, 4, .inl (fun _ => (-1))))] sz)) 0 0 (va_A [(qm, .inr (11, [w0, w1, w2, w3, w4, w5, w6, .ref ss, w8, w9, w10, w11, w12, w13, w14, w15, w16, w17, w18, w19, w20, w21, w22, w23, w24, w25, w26, w27, w28, w29, w30, w31, w32, w33, w34, w35, w36, w37, w38])), (ss, .inl (cI, 4, .inl (fun _ => (-1))))] sz) := by
  refine pw_met (cc := cX11_chart) (maxL := 8) (ret := (some .int)) (by decide) rfl (Nat.le_of_ble_eq_true rfl) ?_
  intro p e s m below meth c0 hx hb hr hml hown hlocks hnm hts hP hK hD hN hsz hA hS ls hl
  subst hsz
  have hl : lv_has ls 8 [(0, .ref qm), (1, .int k), (2, .int ln), (3, .int i), (4, .int n), (5, .int sv)] := hl
  have hiX11 : ∀ w ∈ wsX110, w ∈ wsX11_chart := by decide +kernel
  refine lv_iload_n hx hb dX11_chart_0 rfl (lv_at hl 1 rfl) ?_
  refine vp_callSi (va_Run.run (va_runS (As := [.int k]) (rest := []) ⟨hx, hb, hml, hown, hts⟩ (c_X11_noSheet l k ) (va_cwS 1 hts gX11_chart_X11_noSheet rfl rfl rfl (by decide +kernel) ⟨Nat.le_of_ble_eq_true rfl, Nat.le_of_ble_eq_true rfl⟩) (p0_preS hN) rfl rfl hl.1 rfl (lv_room (Nat.le_of_ble_eq_true rfl)) dX11_chart_1 ⟨Nat.le_of_ble_eq_true rfl, Nat.le_of_ble_eq_true rfl⟩)) (fun r1 hr1 => ?_)
  have hr1 : r1 = if ¬ (0 ≤ k ∧ k ≤ 3) then 1 else 0 := hr1
  refine lv_if_ne (tgt := 20) hx hb dX11_chart_4 (by decide) (fun c2 => ?_) (fun c2 => ?_)
  · skip
    have c2 := (fa_bool_prop hr1).2.mp c2
    refine lv_aload_n hx hb dX11_chart_20 rfl (lv_at hl 0 rfl) ?_
    refine lv_iconst (v := (-1)) hx hb dX11_chart_21 (by decide) ?_
    have hPc := hP.sub (ws' := [(qm, .inr (11, [w0, w1, w2, w3, w4, w5, w6, .ref ss, w8, w9, w10, w11, w12, w13, w14, w15, w16, w17, w18, w19, w20, w21, w22, w23, w24, w25, w26, w27, w28, w29, w30, w31, w32, w33, w34, w35, w36, w37, w38]))]) [0] rfl
    have hDc := hD.sub (ws' := [(qm, .inr (11, [w0, w1, w2, w3, w4, w5, w6, .ref ss, w8, w9, w10, w11, w12, w13, w14, w15, w16, w17, w18, w19, w20, w21, w22, w23, w24, w25, w26, w27, w28, w29, w30, w31, w32, w33, w34, w35, w36, w37, w38]))]) [0] (by decide) rfl
    have hKc := hK.sub (tys' := []) [] rfl
    have hFc := va_free (wc := [(qm, .inr (11, [w0, w1, w2, w3, w4, w5, w6, .ref ss, w8, w9, w10, w11, w12, w13, w14, w15, w16, w17, w18, w19, w20, w21, w22, w23, w24, w25, w26, w27, w28, w29, w30, w31, w32, w33, w34, w35, w36, w37, w38]))]) hD hS hA [0] rfl
    refine va_calli (va_runV (As := [.int (-1)]) (rest := []) ⟨hx, hb, hml, hown, hts⟩ (c_X11_refused l dC dI  _ qm w0 w1 w2 w3 w4 w5 w6 (.ref ss) w8 w9 w10 w11 w12 w13 w14 w15 w16 w17 w18 w19 w20 w21 w22 w23 w24 w25 w26 w27 w28 w29 w30 w31 w32 w33 w34 w35 w36 w37 w38 (-1) ) (cwV 1 hts gX11_chart_X11_refused rfl rfl rfl (by decide +kernel) ⟨Nat.le_of_ble_eq_true rfl, Nat.le_of_ble_eq_true rfl⟩) (pw_preV (va_recv hKc hPc (ci := 11) (q0 := 0) rfl rfl) hPc hKc hDc hN) rfl rfl hl.1 rfl (lv_room (Nat.le_of_ble_eq_true rfl)) dX11_chart_22 ⟨Nat.le_of_ble_eq_true rfl, Nat.le_of_ble_eq_true rfl⟩) hS (fun q _ h => hFc q h) hFc (fun r3 u t H1 locs ht hvm hw hB hz1 hk1 hS => ?_)
    have hr3 : r3 = (-1) := hw
    obtain ⟨hP1, hK1, hD1⟩ := hB
    rw [ht] at hP1
    obtain ⟨hP, hD⟩ := va_join (wr := [(ss, .inl (cI, 4, .inl (fun _ => (-1))))]) (w1 := [(qm, .inr (11, [.int 0, w1, w2, w3, w4, w5, w6, .ref ss, w8, w9, w10, w11, w12, w13, w14, w15, w16, w17, w18, w19, w20, w21, w22, w23, w24, w25, w26, w27, w28, w29, w30, w31, w32, w33, w34, w35, w36, w37, w38]))]) hP hD [0] [1] rfl rfl (by decide) (by decide) hk1 hFc hP1 hD1
    generalize H1 = H at hP hS ⊢
    have hP : va_P (dC, dI) vwCl [(ss, .inl (cI, 4, .inl (fun _ => (-1)))), (qm, .inr (11, [.int 0, w1, w2, w3, w4, w5, w6, .ref ss, w8, w9, w10, w11, w12, w13, w14, w15, w16, w17, w18, w19, w20, w21, w22, w23, w24, w25, w26, w27, w28, w29, w30, w31, w32, w33, w34, w35, w36, w37, w38]))] H := hP
    have hD : va_D _ [(ss, .inl (cI, 4, .inl (fun _ => (-1)))), (qm, .inr (11, [.int 0, w1, w2, w3, w4, w5, w6, .ref ss, w8, w9, w10, w11, w12, w13, w14, w15, w16, w17, w18, w19, w20, w21, w22, w23, w24, w25, w26, w27, w28, w29, w30, w31, w32, w33, w34, w35, w36, w37, w38]))] := hD
    exact W.iret (v := r3) hx hb hr (fun t ht hW => ⟨⟨r3, (), rfl, (by rw [hr3]; simp [sp_chart, c2]), trivial⟩, hS.F ht⟩) hS.2.2 dX11_chart_25
  · skip
    have c2 := (fa_bool_prop hr1).1.mp c2
    have c2 := Decidable.not_not.mp c2
    refine lv_iload hx hb dX11_chart_7 (lv_at hl 5 rfl) ?_
    refine lv_i2l (v := sv.toInt64) hx hb dX11_chart_9 rfl ?_
    refine lv_lconst (v := 0) hx hb dX11_chart_10 (by decide) ?_
    refine lv_ldc2 (v := 47) hx hb hown (hts (.constantLong RX11 168 (47)) (by decide +kernel)) dX11_chart_11 ?_
    refine vp_callSi (va_Run.run (va_runS (As := [.long sv.toInt64, .long 0, .long 47]) (rest := []) ⟨hx, hb, hml, hown, hts⟩ (c_X11_in l sv.toInt64 0 47 ) (va_cwS 3 hts gX11_chart_X11_in rfl rfl rfl (by decide +kernel) ⟨Nat.le_of_ble_eq_true rfl, Nat.le_of_ble_eq_true rfl⟩) (p0_preS hN) rfl rfl hl.1 rfl (lv_room (Nat.le_of_ble_eq_true rfl)) dX11_chart_14 ⟨Nat.le_of_ble_eq_true rfl, Nat.le_of_ble_eq_true rfl⟩)) (fun r4 hr4 => ?_)
    have hr4 : r4 = if 0 ≤ sv.toInt64 ∧ sv.toInt64 ≤ 47 then 1 else 0 := hr4
    have hr4 := hr4.trans (in_w _ 0 47 (by decide) (by decide))
    refine lv_if_ne (tgt := 26) hx hb dX11_chart_17 (by decide) (fun c5 => ?_) (fun c5 => ?_)
    · skip
      have c5 := (fa_bool_prop hr4).2.mp c5
      refine lv_iload_n hx hb dX11_chart_26 rfl (lv_at hl 2 rfl) ?_
      refine lv_i2l (v := ln.toInt64) hx hb dX11_chart_27 rfl ?_
      refine lv_lconst (v := 0) hx hb dX11_chart_28 (by decide) ?_
      refine lv_ldc2 (v := 2) hx hb hown (hts (.constantLong RX11 151 (2)) (by decide +kernel)) dX11_chart_29 ?_
      refine vp_callSi (va_Run.run (va_runS (As := [.long ln.toInt64, .long 0, .long 2]) (rest := []) ⟨hx, hb, hml, hown, hts⟩ (c_X11_in l ln.toInt64 0 2 ) (va_cwS 3 hts gX11_chart_X11_in rfl rfl rfl (by decide +kernel) ⟨Nat.le_of_ble_eq_true rfl, Nat.le_of_ble_eq_true rfl⟩) (p0_preS hN) rfl rfl hl.1 rfl (lv_room (Nat.le_of_ble_eq_true rfl)) dX11_chart_32 ⟨Nat.le_of_ble_eq_true rfl, Nat.le_of_ble_eq_true rfl⟩)) (fun r6 hr6 => ?_)
      have hr6 : r6 = if 0 ≤ ln.toInt64 ∧ ln.toInt64 ≤ 2 then 1 else 0 := hr6
      have hr6 := hr6.trans (in_w _ 0 2 (by decide) (by decide))
      refine lv_if_ne (tgt := 45) hx hb dX11_chart_35 (by decide) (fun c7 => ?_) (fun c7 => ?_)
      · skip
        have c7 := (fa_bool_prop hr6).2.mp c7
        refine lv_aload_n hx hb dX11_chart_45 rfl (lv_at hl 0 rfl) ?_
        refine va_get (D := (dC, dI)) (ci := 11) (v := .ref ss) (C := RX11) (T := TX11) (N := 39) hx hb hts hiX11 hown hK hP 0 rfl rfl 7 (by decide) (hts (.fieldLink RX11 22 "TributePitchesModel" "sheetSize" "[I") (by decide +kernel)) (fun _ h9 => h9) rfl dX11_chart_46 ?_
        refine lv_iload_n hx hb dX11_chart_49 rfl (lv_at hl 1 rfl) ?_
        refine va_iald hx hb hK hP 1 0 rfl rfl (in4 c2) dX11_chart_50 ?_
        refine W.eq (g2 := F0 m 51 ls [.int ((-1)]) rfl ?_
        refine lv_if_lt (tgt := 70) hx hb dX11_chart_51 (by decide) (fun c8 => ?_) (fun c8 => ?_)
        · skip
          refine lv_aload_n hx hb dX11_chart_70 rfl (lv_at hl 0 rfl) ?_
          refine va_get (D := (dC, dI)) (ci := 11) (v := .ref ss) (C := RX11) (T := TX11) (N := 39) hx hb hts hiX11 hown hK hP 0 rfl rfl 7 (by decide) (hts (.fieldLink RX11 22 "TributePitchesModel" "sheetSize" "[I") (by decide +kernel)) (fun _ h9 => h9) rfl dX11_chart_71 ?_
          refine lv_iload_n hx hb dX11_chart_74 rfl (lv_at hl 1 rfl) ?_
          refine va_iald hx hb hK hP 1 0 rfl rfl (in4 c2) dX11_chart_75 ?_
          refine W.eq (g2 := F0 m 76 ls [.int ((-1)]) rfl ?_
          refine lv_if_ge (tgt := 85) hx hb dX11_chart_76 (by decide) (fun c9 => ?_) (fun c9 => ?_)
          · exact absurd c9 (by decide)
          · skip
            refine lv_aload_n hx hb dX11_chart_79 rfl (lv_at hl 0 rfl) ?_
            refine lv_iconst (v := 1) hx hb dX11_chart_80 (by decide) ?_
            have hPc := hP.sub (ws' := [(qm, .inr (11, [w0, w1, w2, w3, w4, w5, w6, .ref ss, w8, w9, w10, w11, w12, w13, w14, w15, w16, w17, w18, w19, w20, w21, w22, w23, w24, w25, w26, w27, w28, w29, w30, w31, w32, w33, w34, w35, w36, w37, w38]))]) [0] rfl
            have hDc := hD.sub (ws' := [(qm, .inr (11, [w0, w1, w2, w3, w4, w5, w6, .ref ss, w8, w9, w10, w11, w12, w13, w14, w15, w16, w17, w18, w19, w20, w21, w22, w23, w24, w25, w26, w27, w28, w29, w30, w31, w32, w33, w34, w35, w36, w37, w38]))]) [0] (by decide) rfl
            have hKc := hK.sub (tys' := []) [] rfl
            have hFc := va_free (wc := [(qm, .inr (11, [w0, w1, w2, w3, w4, w5, w6, .ref ss, w8, w9, w10, w11, w12, w13, w14, w15, w16, w17, w18, w19, w20, w21, w22, w23, w24, w25, w26, w27, w28, w29, w30, w31, w32, w33, w34, w35, w36, w37, w38]))]) hD hS hA [0] rfl
            refine va_calli (va_runV (As := [.int 1]) (rest := []) ⟨hx, hb, hml, hown, hts⟩ (c_X11_failed l dC dI  _ qm w0 w1 w2 w3 w4 w5 w6 (.ref ss) w8 w9 w10 w11 w12 w13 w14 w15 w16 w17 w18 w19 w20 w21 w22 w23 w24 w25 w26 w27 w28 w29 w30 w31 w32 w33 w34 w35 w36 w37 w38 1 ) (cwV 1 hts gX11_chart_X11_failed rfl rfl rfl (by decide +kernel) ⟨Nat.le_of_ble_eq_true rfl, Nat.le_of_ble_eq_true rfl⟩) (pw_preV (va_recv hKc hPc (ci := 11) (q0 := 0) rfl rfl) hPc hKc hDc hN) rfl rfl hl.1 rfl (lv_room (Nat.le_of_ble_eq_true rfl)) dX11_chart_81 ⟨Nat.le_of_ble_eq_true rfl, Nat.le_of_ble_eq_true rfl⟩) hS (fun q _ h => hFc q h) hFc (fun r10 u t H1 locs ht hvm hw hB hz1 hk1 hS => ?_)
            have hr10 : r10 = -10 - 1 := hw
            obtain ⟨hP1, hK1, hD1⟩ := hB
            rw [ht] at hP1
            obtain ⟨hP, hD⟩ := va_join (wr := [(ss, .inl (cI, 4, .inl (fun _ => (-1))))]) (w1 := [(qm, .inr (11, [.int 1, w1, w2, w3, w4, w5, w6, .ref ss, w8, w9, w10, w11, w12, w13, w14, w15, w16, w17, w18, w19, w20, w21, w22, w23, w24, w25, w26, w27, w28, w29, w30, w31, w32, w33, w34, w35, w36, w37, w38]))]) hP hD [0] [1] rfl rfl (by decide) (by decide) hk1 hFc hP1 hD1
            generalize H1 = H at hP hS ⊢
            have hP : va_P (dC, dI) vwCl [(ss, .inl (cI, 4, .inl (fun _ => (-1)))), (qm, .inr (11, [.int 1, w1, w2, w3, w4, w5, w6, .ref ss, w8, w9, w10, w11, w12, w13, w14, w15, w16, w17, w18, w19, w20, w21, w22, w23, w24, w25, w26, w27, w28, w29, w30, w31, w32, w33, w34, w35, w36, w37, w38]))] H := hP
            have hD : va_D _ [(ss, .inl (cI, 4, .inl (fun _ => (-1)))), (qm, .inr (11, [.int 1, w1, w2, w3, w4, w5, w6, .ref ss, w8, w9, w10, w11, w12, w13, w14, w15, w16, w17, w18, w19, w20, w21, w22, w23, w24, w25, w26, w27, w28, w29, w30, w31, w32, w33, w34, w35, w36, w37, w38]))] := hD
            exact W.iret (v := r10) hx hb hr (fun t ht hW => ⟨⟨r10, (), rfl, (by rw [hr10]; simp [sp_chart, c2, c5, c7, c8, c9]), trivial⟩, hS.F ht⟩) hS.2.2 dX11_chart_84
        · exact absurd c8 (by decide)
      · skip
        have c7 := (fa_bool_prop hr6).1.mp c7
        refine lv_aload_n hx hb dX11_chart_38 rfl (lv_at hl 0 rfl) ?_
        refine lv_bipush (v := (-2)) hx hb dX11_chart_39 (by decide) ?_
        have hPc := hP.sub (ws' := [(qm, .inr (11, [w0, w1, w2, w3, w4, w5, w6, .ref ss, w8, w9, w10, w11, w12, w13, w14, w15, w16, w17, w18, w19, w20, w21, w22, w23, w24, w25, w26, w27, w28, w29, w30, w31, w32, w33, w34, w35, w36, w37, w38]))]) [0] rfl
        have hDc := hD.sub (ws' := [(qm, .inr (11, [w0, w1, w2, w3, w4, w5, w6, .ref ss, w8, w9, w10, w11, w12, w13, w14, w15, w16, w17, w18, w19, w20, w21, w22, w23, w24, w25, w26, w27, w28, w29, w30, w31, w32, w33, w34, w35, w36, w37, w38]))]) [0] (by decide) rfl
        have hKc := hK.sub (tys' := []) [] rfl
        have hFc := va_free (wc := [(qm, .inr (11, [w0, w1, w2, w3, w4, w5, w6, .ref ss, w8, w9, w10, w11, w12, w13, w14, w15, w16, w17, w18, w19, w20, w21, w22, w23, w24, w25, w26, w27, w28, w29, w30, w31, w32, w33, w34, w35, w36, w37, w38]))]) hD hS hA [0] rfl
        refine va_calli (va_runV (As := [.int (-2)]) (rest := []) ⟨hx, hb, hml, hown, hts⟩ (c_X11_refused l dC dI  _ qm w0 w1 w2 w3 w4 w5 w6 (.ref ss) w8 w9 w10 w11 w12 w13 w14 w15 w16 w17 w18 w19 w20 w21 w22 w23 w24 w25 w26 w27 w28 w29 w30 w31 w32 w33 w34 w35 w36 w37 w38 (-2) ) (cwV 1 hts gX11_chart_X11_refused rfl rfl rfl (by decide +kernel) ⟨Nat.le_of_ble_eq_true rfl, Nat.le_of_ble_eq_true rfl⟩) (pw_preV (va_recv hKc hPc (ci := 11) (q0 := 0) rfl rfl) hPc hKc hDc hN) rfl rfl hl.1 rfl (lv_room (Nat.le_of_ble_eq_true rfl)) dX11_chart_41 ⟨Nat.le_of_ble_eq_true rfl, Nat.le_of_ble_eq_true rfl⟩) hS (fun q _ h => hFc q h) hFc (fun r11 u t H1 locs ht hvm hw hB hz1 hk1 hS => ?_)
        have hr11 : r11 = (-2) := hw
        obtain ⟨hP1, hK1, hD1⟩ := hB
        rw [ht] at hP1
        obtain ⟨hP, hD⟩ := va_join (wr := [(ss, .inl (cI, 4, .inl (fun _ => (-1))))]) (w1 := [(qm, .inr (11, [.int 0, w1, w2, w3, w4, w5, w6, .ref ss, w8, w9, w10, w11, w12, w13, w14, w15, w16, w17, w18, w19, w20, w21, w22, w23, w24, w25, w26, w27, w28, w29, w30, w31, w32, w33, w34, w35, w36, w37, w38]))]) hP hD [0] [1] rfl rfl (by decide) (by decide) hk1 hFc hP1 hD1
        generalize H1 = H at hP hS ⊢
        have hP : va_P (dC, dI) vwCl [(ss, .inl (cI, 4, .inl (fun _ => (-1)))), (qm, .inr (11, [.int 0, w1, w2, w3, w4, w5, w6, .ref ss, w8, w9, w10, w11, w12, w13, w14, w15, w16, w17, w18, w19, w20, w21, w22, w23, w24, w25, w26, w27, w28, w29, w30, w31, w32, w33, w34, w35, w36, w37, w38]))] H := hP
        have hD : va_D _ [(ss, .inl (cI, 4, .inl (fun _ => (-1)))), (qm, .inr (11, [.int 0, w1, w2, w3, w4, w5, w6, .ref ss, w8, w9, w10, w11, w12, w13, w14, w15, w16, w17, w18, w19, w20, w21, w22, w23, w24, w25, w26, w27, w28, w29, w30, w31, w32, w33, w34, w35, w36, w37, w38]))] := hD
        exact W.iret (v := r11) hx hb hr (fun t ht hW => ⟨⟨r11, (), rfl, (by rw [hr11]; simp [sp_chart, c2, c5, c7]), trivial⟩, hS.F ht⟩) hS.2.2 dX11_chart_44
    · skip
      have c5 := (fa_bool_prop hr4).1.mp c5
      refine lv_aload_n hx hb dX11_chart_20 rfl (lv_at hl 0 rfl) ?_
      refine lv_iconst (v := (-1)) hx hb dX11_chart_21 (by decide) ?_
      have hPc := hP.sub (ws' := [(qm, .inr (11, [w0, w1, w2, w3, w4, w5, w6, .ref ss, w8, w9, w10, w11, w12, w13, w14, w15, w16, w17, w18, w19, w20, w21, w22, w23, w24, w25, w26, w27, w28, w29, w30, w31, w32, w33, w34, w35, w36, w37, w38]))]) [0] rfl
      have hDc := hD.sub (ws' := [(qm, .inr (11, [w0, w1, w2, w3, w4, w5, w6, .ref ss, w8, w9, w10, w11, w12, w13, w14, w15, w16, w17, w18, w19, w20, w21, w22, w23, w24, w25, w26, w27, w28, w29, w30, w31, w32, w33, w34, w35, w36, w37, w38]))]) [0] (by decide) rfl
      have hKc := hK.sub (tys' := []) [] rfl
      have hFc := va_free (wc := [(qm, .inr (11, [w0, w1, w2, w3, w4, w5, w6, .ref ss, w8, w9, w10, w11, w12, w13, w14, w15, w16, w17, w18, w19, w20, w21, w22, w23, w24, w25, w26, w27, w28, w29, w30, w31, w32, w33, w34, w35, w36, w37, w38]))]) hD hS hA [0] rfl
      refine va_calli (va_runV (As := [.int (-1)]) (rest := []) ⟨hx, hb, hml, hown, hts⟩ (c_X11_refused l dC dI  _ qm w0 w1 w2 w3 w4 w5 w6 (.ref ss) w8 w9 w10 w11 w12 w13 w14 w15 w16 w17 w18 w19 w20 w21 w22 w23 w24 w25 w26 w27 w28 w29 w30 w31 w32 w33 w34 w35 w36 w37 w38 (-1) ) (cwV 1 hts gX11_chart_X11_refused rfl rfl rfl (by decide +kernel) ⟨Nat.le_of_ble_eq_true rfl, Nat.le_of_ble_eq_true rfl⟩) (pw_preV (va_recv hKc hPc (ci := 11) (q0 := 0) rfl rfl) hPc hKc hDc hN) rfl rfl hl.1 rfl (lv_room (Nat.le_of_ble_eq_true rfl)) dX11_chart_22 ⟨Nat.le_of_ble_eq_true rfl, Nat.le_of_ble_eq_true rfl⟩) hS (fun q _ h => hFc q h) hFc (fun r12 u t H1 locs ht hvm hw hB hz1 hk1 hS => ?_)
      have hr12 : r12 = (-1) := hw
      obtain ⟨hP1, hK1, hD1⟩ := hB
      rw [ht] at hP1
      obtain ⟨hP, hD⟩ := va_join (wr := [(ss, .inl (cI, 4, .inl (fun _ => (-1))))]) (w1 := [(qm, .inr (11, [.int 0, w1, w2, w3, w4, w5, w6, .ref ss, w8, w9, w10, w11, w12, w13, w14, w15, w16, w17, w18, w19, w20, w21, w22, w23, w24, w25, w26, w27, w28, w29, w30, w31, w32, w33, w34, w35, w36, w37, w38]))]) hP hD [0] [1] rfl rfl (by decide) (by decide) hk1 hFc hP1 hD1
      generalize H1 = H at hP hS ⊢
      have hP : va_P (dC, dI) vwCl [(ss, .inl (cI, 4, .inl (fun _ => (-1)))), (qm, .inr (11, [.int 0, w1, w2, w3, w4, w5, w6, .ref ss, w8, w9, w10, w11, w12, w13, w14, w15, w16, w17, w18, w19, w20, w21, w22, w23, w24, w25, w26, w27, w28, w29, w30, w31, w32, w33, w34, w35, w36, w37, w38]))] H := hP
      have hD : va_D _ [(ss, .inl (cI, 4, .inl (fun _ => (-1)))), (qm, .inr (11, [.int 0, w1, w2, w3, w4, w5, w6, .ref ss, w8, w9, w10, w11, w12, w13, w14, w15, w16, w17, w18, w19, w20, w21, w22, w23, w24, w25, w26, w27, w28, w29, w30, w31, w32, w33, w34, w35, w36, w37, w38]))] := hD
      exact W.iret (v := r12) hx hb hr (fun t ht hW => ⟨⟨r12, (), rfl, (by rw [hr12]; simp [sp_chart, c2, c5]), trivial⟩, hS.F ht⟩) hS.2.2 dX11_chart_25
set_option maxHeartbeats 4000000 in
set_option maxRecDepth 100000 in
theorem c_X11_sheet (l : Launch) (dC : Nat → ClassId) (dI : Nat → Nat → Nat) (cI : ClassId) (sz : Nat) (qm : Nat) (w0 : Value) (w1 : Value) (w2 : Value) (w3 : Value) (w4 : Value) (w5 : Value) (w6 : Value) (w10 : Value) (w11 : Value) (w12 : Value) (w13 : Value) (w14 : Value) (w15 : Value) (w16 : Value) (w17 : Value) (w18 : Value) (w19 : Value) (w20 : Value) (w21 : Value) (w22 : Value) (w23 : Value) (w24 : Value) (w25 : Value) (w26 : Value) (w27 : Value) (w28 : Value) (w29 : Value) (w30 : Value) (w31 : Value) (w32 : Value) (w33 : Value) (w34 : Value) (w35 : Value) (w36 : Value) (w37 : Value) (w38 : Value) (ss : Nat) (sl : Nat) (sa : Nat) (k : Int32) (ln : Int32) (n : Int32)  : Met l yX11_sheet wsX11_sheet ({ frames := 3, cells := 0, slots := 0, locals := 90 }) (pw (dC, dI) [(cI, .int)] [(qm, .inr (11, [w0, w1, w2, w3, w4, w5, w6, .ref ss, .ref sl, .ref sa, w10, w11, w12, w13, w14, w15, w16, w17, w18, w19, w20, w21, w22, w23, w24, w25, w26, w27, w28, w29, w30, w31, w32, w33, w34, w35, w36, w37, w38])), (ss, .inl (cI, 4, .inl (fun _ => (-1)))), (sl, .inl (cI, 4, .inl (fun _ => 0))), (sa, .inl (cI, 192, .inl (fun _ => 0)))] sz [.ref qm, .int k, .int ln, .int n]) (va_Qi (fun r (_ : Unit) => r = sp_sheet k ln n) (fun _ _ => True) (va_A [(qm, .inr (11, [w0, w1, w2, w3, w4, w5, w6, .ref ss, .ref sl, .ref sa, w10, w11, w12, w13, w14, w15, w16, w17, w18, w19, w20, w21, w22, w23, w24, w25, w26, w27, w28, w29, w30, w31, w32, w33, w34, w35, w36, w37, w38])), (ss, .inl (cI, 4, .inl (fun _ => (-1)))), (sl, .inl (cI, 4, .inl (fun _ => 0))), (sa, .inl (cI, 192, .inl (fun _ => 0)))] sz)) 0 0 (va_A [(qm, .inr (11, [w0, w1, w2, w3, w4, w5, w6, .ref ss, .ref sl, .ref sa, w10, w11, w12, w13, w14, w15, w16, w17, w18, w19, w20, w21, w22, w23, w24, w25, w26, w27, w28, w29, w30, w31, w32, w33, w34, w35, w36, w37, w38])), (ss, .inl (cI, 4, .inl (fun _ => (-1)))), (sl, .inl (cI, 4, .inl (fun _ => 0))), (sa, .inl (cI, 192, .inl (fun _ => 0)))] sz) := by
  refine pw_met (cc := cX11_sheet) (maxL := 5) (ret := (some .int)) (by decide) rfl (Nat.le_of_ble_eq_true rfl) ?_
  intro p e s m below meth c0 hx hb hr hml hown hlocks hnm hts hP hK hD hN hsz hA hS ls hl
  subst hsz
  have hl : lv_has ls 5 [(0, .ref qm), (1, .int k), (2, .int ln), (3, .int n)] := hl
  have hiX11 : ∀ w ∈ wsX110, w ∈ wsX11_sheet := by decide +kernel
  obtain ⟨Q, hQ⟩ : ∃ Q : State → Prop, Q = MQ below (va_Qi (fun r (_ : Unit) => r = sp_sheet k ln n) (fun _ _ => True) (va_A [(qm, .inr (11, [w0, w1, w2, w3, w4, w5, w6, .ref ss, .ref sl, .ref sa, w10, w11, w12, w13, w14, w15, w16, w17, w18, w19, w20, w21, w22, w23, w24, w25, w26, w27, w28, w29, w30, w31, w32, w33, w34, w35, w36, w37, w38])), (ss, .inl (cI, 4, .inl (fun _ => (-1)))), (sl, .inl (cI, 4, .inl (fun _ => 0))), (sa, .inl (cI, 192, .inl (fun _ => 0)))] s.heap.size)) ([.ref qm, .int k, .int ln, .int n] : List Value).toArray s 0 0 (va_A [(qm, .inr (11, [w0, w1, w2, w3, w4, w5, w6, .ref ss, .ref sl, .ref sa, w10, w11, w12, w13, w14, w15, w16, w17, w18, w19, w20, w21, w22, w23, w24, w25, w26, w27, w28, w29, w30, w31, w32, w33, w34, w35, w36, w37, w38])), (ss, .inl (cI, 4, .inl (fun _ => (-1)))), (sl, .inl (cI, 4, .inl (fun _ => 0))), (sa, .inl (cI, 192, .inl (fun _ => 0)))] s.heap.size) := ⟨_, rfl⟩
  rw [← hQ]
  refine lv_iload_n hx hb dX11_sheet_0 rfl (lv_at hl 1 rfl) ?_
  refine vp_callSi (va_Run.run (va_runS (As := [.int k]) (rest := []) ⟨hx, hb, hml, hown, hts⟩ (c_X11_noSheet l k ) (va_cwS 1 hts gX11_sheet_X11_noSheet rfl rfl rfl (by decide +kernel) ⟨Nat.le_of_ble_eq_true rfl, Nat.le_of_ble_eq_true rfl⟩) (p0_preS hN) rfl rfl hl.1 rfl (lv_room (Nat.le_of_ble_eq_true rfl)) dX11_sheet_1 ⟨Nat.le_of_ble_eq_true rfl, Nat.le_of_ble_eq_true rfl⟩)) (fun r1 hr1 => ?_)
  have hr1 : r1 = if ¬ (0 ≤ k ∧ k ≤ 3) then 1 else 0 := hr1
  refine lv_if_eq (tgt := 13) hx hb dX11_sheet_4 (by decide) (fun c2 => ?_) (fun c2 => ?_)
  · skip
    have c2 := (fa_bool_prop hr1).1.mp c2
    have c2 := Decidable.not_not.mp c2
    refine lv_iload_n hx hb dX11_sheet_13 rfl (lv_at hl 2 rfl) ?_
    refine lv_i2l (v := ln.toInt64) hx hb dX11_sheet_14 rfl ?_
    refine lv_lconst (v := 0) hx hb dX11_sheet_15 (by decide) ?_
    refine lv_ldc2 (v := 2) hx hb hown (hts (.constantLong RX11 151 (2)) (by decide +kernel)) dX11_sheet_16 ?_
    refine vp_callSi (va_Run.run (va_runS (As := [.long ln.toInt64, .long 0, .long 2]) (rest := []) ⟨hx, hb, hml, hown, hts⟩ (c_X11_in l ln.toInt64 0 2 ) (va_cwS 3 hts gX11_sheet_X11_in rfl rfl rfl (by decide +kernel) ⟨Nat.le_of_ble_eq_true rfl, Nat.le_of_ble_eq_true rfl⟩) (p0_preS hN) rfl rfl hl.1 rfl (lv_room (Nat.le_of_ble_eq_true rfl)) dX11_sheet_19 ⟨Nat.le_of_ble_eq_true rfl, Nat.le_of_ble_eq_true rfl⟩)) (fun r3 hr3 => ?_)
    have hr3 : r3 = if 0 ≤ ln.toInt64 ∧ ln.toInt64 ≤ 2 then 1 else 0 := hr3
    have hr3 := hr3.trans (in_w _ 0 2 (by decide) (by decide))
    refine lv_if_eq (tgt := 31) hx hb dX11_sheet_22 (by decide) (fun c4 => ?_) (fun c4 => ?_)
    · skip
      have c4 := (fa_bool_prop hr3).1.mp c4
      refine lv_aload_n hx hb dX11_sheet_31 rfl (lv_at hl 0 rfl) ?_
      refine lv_bipush (v := (-2)) hx hb dX11_sheet_32 (by decide) ?_
      have hPc := hP.sub (ws' := [(qm, .inr (11, [w0, w1, w2, w3, w4, w5, w6, .ref ss, .ref sl, .ref sa, w10, w11, w12, w13, w14, w15, w16, w17, w18, w19, w20, w21, w22, w23, w24, w25, w26, w27, w28, w29, w30, w31, w32, w33, w34, w35, w36, w37, w38]))]) [0] rfl
      have hDc := hD.sub (ws' := [(qm, .inr (11, [w0, w1, w2, w3, w4, w5, w6, .ref ss, .ref sl, .ref sa, w10, w11, w12, w13, w14, w15, w16, w17, w18, w19, w20, w21, w22, w23, w24, w25, w26, w27, w28, w29, w30, w31, w32, w33, w34, w35, w36, w37, w38]))]) [0] (by decide) rfl
      have hKc := hK.sub (tys' := []) [] rfl
      have hFc := va_free (wc := [(qm, .inr (11, [w0, w1, w2, w3, w4, w5, w6, .ref ss, .ref sl, .ref sa, w10, w11, w12, w13, w14, w15, w16, w17, w18, w19, w20, w21, w22, w23, w24, w25, w26, w27, w28, w29, w30, w31, w32, w33, w34, w35, w36, w37, w38]))]) hD hS hA [0] rfl
      refine va_calli (va_runV (As := [.int (-2)]) (rest := []) ⟨hx, hb, hml, hown, hts⟩ (c_X11_refused l dC dI  _ qm w0 w1 w2 w3 w4 w5 w6 (.ref ss) (.ref sl) (.ref sa) w10 w11 w12 w13 w14 w15 w16 w17 w18 w19 w20 w21 w22 w23 w24 w25 w26 w27 w28 w29 w30 w31 w32 w33 w34 w35 w36 w37 w38 (-2) ) (cwV 1 hts gX11_sheet_X11_refused rfl rfl rfl (by decide +kernel) ⟨Nat.le_of_ble_eq_true rfl, Nat.le_of_ble_eq_true rfl⟩) (pw_preV (va_recv hKc hPc (ci := 11) (q0 := 0) rfl rfl) hPc hKc hDc hN) rfl rfl hl.1 rfl (lv_room (Nat.le_of_ble_eq_true rfl)) dX11_sheet_34 ⟨Nat.le_of_ble_eq_true rfl, Nat.le_of_ble_eq_true rfl⟩) hS (fun q _ h => hFc q h) hFc (fun r5 u t H1 locs ht hvm hw hB hz1 hk1 hS => ?_)
      have hr5 : r5 = (-2) := hw
      obtain ⟨hP1, hK1, hD1⟩ := hB
      rw [ht] at hP1
      obtain ⟨hP, hD⟩ := va_join (wr := [(ss, .inl (cI, 4, .inl (fun _ => (-1)))), (sl, .inl (cI, 4, .inl (fun _ => 0))), (sa, .inl (cI, 192, .inl (fun _ => 0)))]) (w1 := [(qm, .inr (11, [.int 0, w1, w2, w3, w4, w5, w6, .ref ss, .ref sl, .ref sa, w10, w11, w12, w13, w14, w15, w16, w17, w18, w19, w20, w21, w22, w23, w24, w25, w26, w27, w28, w29, w30, w31, w32, w33, w34, w35, w36, w37, w38]))]) hP hD [0] [1, 2, 3] rfl rfl (by decide) (by decide) hk1 hFc hP1 hD1
      generalize H1 = H at hP hS ⊢
      have hP : va_P (dC, dI) vwCl [(ss, .inl (cI, 4, .inl (fun _ => (-1)))), (sl, .inl (cI, 4, .inl (fun _ => 0))), (sa, .inl (cI, 192, .inl (fun _ => 0))), (qm, .inr (11, [.int 0, w1, w2, w3, w4, w5, w6, .ref ss, .ref sl, .ref sa, w10, w11, w12, w13, w14, w15, w16, w17, w18, w19, w20, w21, w22, w23, w24, w25, w26, w27, w28, w29, w30, w31, w32, w33, w34, w35, w36, w37, w38]))] H := hP
      have hD : va_D _ [(ss, .inl (cI, 4, .inl (fun _ => (-1)))), (sl, .inl (cI, 4, .inl (fun _ => 0))), (sa, .inl (cI, 192, .inl (fun _ => 0))), (qm, .inr (11, [.int 0, w1, w2, w3, w4, w5, w6, .ref ss, .ref sl, .ref sa, w10, w11, w12, w13, w14, w15, w16, w17, w18, w19, w20, w21, w22, w23, w24, w25, w26, w27, w28, w29, w30, w31, w32, w33, w34, w35, w36, w37, w38]))] := hD
      rw [hQ]
      exact W.iret (v := r5) hx hb hr (fun t ht hW => ⟨⟨r5, (), rfl, (by rw [hr5]; simp [sp_sheet, c2, c4]), trivial⟩, hS.F ht⟩) hS.2.2 dX11_sheet_37
    · skip
      have c4 := (fa_bool_prop hr3).2.mp c4
      refine lv_iload_n hx hb dX11_sheet_25 rfl (lv_at hl 3 rfl) ?_
      refine lv_bipush (v := 48) hx hb dX11_sheet_26 (by decide) ?_
      refine lv_icmp_le (tgt := 38) hx hb dX11_sheet_28 (by decide) (fun c6 => ?_) (fun c6 => ?_)
      · skip
        refine lv_iload_n hx hb dX11_sheet_38 rfl (lv_at hl 3 rfl) ?_
        refine lv_if_ge (tgt := 48) hx hb dX11_sheet_39 (by decide) (fun c7 => ?_) (fun c7 => ?_)
        · skip
          refine lv_aload_n hx hb dX11_sheet_48 rfl (lv_at hl 0 rfl) ?_
          refine va_get (D := (dC, dI)) (ci := 11) (v := .ref ss) (C := RX11) (T := TX11) (N := 39) hx hb hts hiX11 hown hK hP 0 rfl rfl 7 (by decide) (hts (.fieldLink RX11 22 "TributePitchesModel" "sheetSize" "[I") (by decide +kernel)) (fun _ h9 => h9) rfl dX11_sheet_49 ?_
          refine lv_iload_n hx hb dX11_sheet_52 rfl (lv_at hl 1 rfl) ?_
          refine lv_iload_n hx hb dX11_sheet_53 rfl (lv_at hl 3 rfl) ?_
          refine va_iast hx hb hK hP hD hS 1 0 rfl rfl (in4 c2) dX11_sheet_54 (fun H locs hP hD hS => ?_)
          have hP : va_P (dC, dI) vwCl [(qm, .inr (11, [w0, w1, w2, w3, w4, w5, w6, .ref ss, .ref sl, .ref sa, w10, w11, w12, w13, w14, w15, w16, w17, w18, w19, w20, w21, w22, w23, w24, w25, w26, w27, w28, w29, w30, w31, w32, w33, w34, w35, w36, w37, w38])), (ss, .inl (cI, 4, .inl (upd (fun _ => (-1)) (k).toNatClampNeg n))), (sl, .inl (cI, 4, .inl (fun _ => 0))), (sa, .inl (cI, 192, .inl (fun _ => 0)))] H := hP
          have hD : va_D _ [(qm, .inr (11, [w0, w1, w2, w3, w4, w5, w6, .ref ss, .ref sl, .ref sa, w10, w11, w12, w13, w14, w15, w16, w17, w18, w19, w20, w21, w22, w23, w24, w25, w26, w27, w28, w29, w30, w31, w32, w33, w34, w35, w36, w37, w38])), (ss, .inl (cI, 4, .inl (upd (fun _ => (-1)) (k).toNatClampNeg n))), (sl, .inl (cI, 4, .inl (fun _ => 0))), (sa, .inl (cI, 192, .inl (fun _ => 0)))] := hD
          refine lv_aload_n hx hb dX11_sheet_55 rfl (lv_at hl 0 rfl) ?_
          refine va_get (D := (dC, dI)) (ci := 11) (v := .ref sl) (C := RX11) (T := TX11) (N := 39) hx hb hts hiX11 hown hK hP 0 rfl rfl 8 (by decide) (hts (.fieldLink RX11 25 "TributePitchesModel" "sheetLane" "[I") (by decide +kernel)) (fun _ h9 => h9) rfl dX11_sheet_56 ?_
          refine lv_iload_n hx hb dX11_sheet_59 rfl (lv_at hl 1 rfl) ?_
          refine lv_iload_n hx hb dX11_sheet_60 rfl (lv_at hl 2 rfl) ?_
          refine va_iast hx hb hK hP hD hS 2 0 rfl rfl (in4 c2) dX11_sheet_61 (fun H locs hP hD hS => ?_)
          have hP : va_P (dC, dI) vwCl [(qm, .inr (11, [w0, w1, w2, w3, w4, w5, w6, .ref ss, .ref sl, .ref sa, w10, w11, w12, w13, w14, w15, w16, w17, w18, w19, w20, w21, w22, w23, w24, w25, w26, w27, w28, w29, w30, w31, w32, w33, w34, w35, w36, w37, w38])), (ss, .inl (cI, 4, .inl (upd (fun _ => (-1)) (k).toNatClampNeg n))), (sl, .inl (cI, 4, .inl (upd (fun _ => 0) (k).toNatClampNeg ln))), (sa, .inl (cI, 192, .inl (fun _ => 0)))] H := hP
          have hD : va_D _ [(qm, .inr (11, [w0, w1, w2, w3, w4, w5, w6, .ref ss, .ref sl, .ref sa, w10, w11, w12, w13, w14, w15, w16, w17, w18, w19, w20, w21, w22, w23, w24, w25, w26, w27, w28, w29, w30, w31, w32, w33, w34, w35, w36, w37, w38])), (ss, .inl (cI, 4, .inl (upd (fun _ => (-1)) (k).toNatClampNeg n))), (sl, .inl (cI, 4, .inl (upd (fun _ => 0) (k).toNatClampNeg ln))), (sa, .inl (cI, 192, .inl (fun _ => 0)))] := hD
          refine lv_iconst (v := 0) hx hb dX11_sheet_62 (by decide) ?_
          refine lv_istore (lv' := [(4, .int 0), (0, .ref qm), (1, .int k), (2, .int ln), (3, .int n)]) hx hb dX11_sheet_63 hl (by decide) rfl (fun ls hl => ?_)
          obtain ⟨nn, hnn, en⟩ := nI_of2 (x := n) (M := 48) (n := 48) (by decide) (Int32.not_lt.mpr c7) c6
          rw [en] at hl
          have loop65 : ∀ (ni65 i65 : Nat) (H : Heap) (locs : List Loc) (ls : Array Slot), i65 ≤ nn → nn + 1 ≤ i65 + ni65 → va_P (dC, dI) vwCl [(qm, .inr (11, [w0, w1, w2, w3, w4, w5, w6, .ref ss, .ref sl, .ref sa, w10, w11, w12, w13, w14, w15, w16, w17, w18, w19, w20, w21, w22, w23, w24, w25, w26, w27, w28, w29, w30, w31, w32, w33, w34, w35, w36, w37, w38])), (ss, .inl (cI, 4, .inl (upd (fun _ => (-1)) (k).toNatClampNeg n))), (sl, .inl (cI, 4, .inl (upd (fun _ => 0) (k).toNatClampNeg ln))), (sa, .inl (cI, 192, .inl (fun _ => 0)))] H → va_D (va_A [(qm, .inr (11, [w0, w1, w2, w3, w4, w5, w6, .ref ss, .ref sl, .ref sa, w10, w11, w12, w13, w14, w15, w16, w17, w18, w19, w20, w21, w22, w23, w24, w25, w26, w27, w28, w29, w30, w31, w32, w33, w34, w35, w36, w37, w38])), (ss, .inl (cI, 4, .inl (fun _ => (-1)))), (sl, .inl (cI, 4, .inl (fun _ => 0))), (sa, .inl (cI, 192, .inl (fun _ => 0)))] s.heap.size) [(qm, .inr (11, [w0, w1, w2, w3, w4, w5, w6, .ref ss, .ref sl, .ref sa, w10, w11, w12, w13, w14, w15, w16, w17, w18, w19, w20, w21, w22, w23, w24, w25, w26, w27, w28, w29, w30, w31, w32, w33, w34, w35, w36, w37, w38])), (ss, .inl (cI, 4, .inl (upd (fun _ => (-1)) (k).toNatClampNeg n))), (sl, .inl (cI, 4, .inl (upd (fun _ => 0) (k).toNatClampNeg ln))), (sa, .inl (cI, 192, .inl (fun _ => 0)))] → va_S (va_A [(qm, .inr (11, [w0, w1, w2, w3, w4, w5, w6, .ref ss, .ref sl, .ref sa, w10, w11, w12, w13, w14, w15, w16, w17, w18, w19, w20, w21, w22, w23, w24, w25, w26, w27, w28, w29, w30, w31, w32, w33, w34, w35, w36, w37, w38])), (ss, .inl (cI, 4, .inl (fun _ => (-1)))), (sl, .inl (cI, 4, .inl (fun _ => 0))), (sa, .inl (cI, 192, .inl (fun _ => 0)))] s.heap.size) s.heap H locs → lv_has ls 5 [(4, .int (nI i65)), (0, .ref qm), (1, .int k), (2, .int ln), (3, .int (nI nn))] → W p l e ({ frames := 3, cells := 0, slots := 0, locals := 90 } : Room) s m ([.ref qm, .int k, .int ln, .int n] : List Value).toArray below meth c0 H locs 0 0 Q (F0 m 65 ls []) := by
            intro ni65
            induction ni65 with
            | zero =>
              intro i65  H locs ls h1 h2
              exact absurd h2 (by omega)
            | succ ni65 ihi65 =>
              intro i65  H locs ls hlei65 hni65  hP hD hS hl
              refine lv_iload hx hb dX11_sheet_65 (lv_at hl 0 rfl) ?_
              refine lv_iload_n hx hb dX11_sheet_67 rfl (lv_at hl 4 rfl) ?_
              refine lv_icmp_ge (tgt := 90) hx hb dX11_sheet_68 (by decide) (fun c8 => ?_) (fun c8 => ?_)
              · skip
                refine lv_aload_n hx hb dX11_sheet_90 rfl (lv_at hl 1 rfl) ?_
                refine lv_iconst (v := 1) hx hb dX11_sheet_91 (by decide) ?_
                have hPc := hP.sub (ws' := [(qm, .inr (11, [w0, w1, w2, w3, w4, w5, w6, .ref ss, .ref sl, .ref sa, w10, w11, w12, w13, w14, w15, w16, w17, w18, w19, w20, w21, w22, w23, w24, w25, w26, w27, w28, w29, w30, w31, w32, w33, w34, w35, w36, w37, w38]))]) [0] rfl
                have hDc := hD.sub (ws' := [(qm, .inr (11, [w0, w1, w2, w3, w4, w5, w6, .ref ss, .ref sl, .ref sa, w10, w11, w12, w13, w14, w15, w16, w17, w18, w19, w20, w21, w22, w23, w24, w25, w26, w27, w28, w29, w30, w31, w32, w33, w34, w35, w36, w37, w38]))]) [0] (by decide) rfl
                have hKc := hK.sub (tys' := []) [] rfl
                have hFc := va_free (wc := [(qm, .inr (11, [w0, w1, w2, w3, w4, w5, w6, .ref ss, .ref sl, .ref sa, w10, w11, w12, w13, w14, w15, w16, w17, w18, w19, w20, w21, w22, w23, w24, w25, w26, w27, w28, w29, w30, w31, w32, w33, w34, w35, w36, w37, w38]))]) hD hS hA [0] rfl
                refine va_calli (va_runV (As := [.int 1]) (rest := []) ⟨hx, hb, hml, hown, hts⟩ (c_X11_refused l dC dI  _ qm w0 w1 w2 w3 w4 w5 w6 (.ref ss) (.ref sl) (.ref sa) w10 w11 w12 w13 w14 w15 w16 w17 w18 w19 w20 w21 w22 w23 w24 w25 w26 w27 w28 w29 w30 w31 w32 w33 w34 w35 w36 w37 w38 1 ) (cwV 1 hts gX11_sheet_X11_refused rfl rfl rfl (by decide +kernel) ⟨Nat.le_of_ble_eq_true rfl, Nat.le_of_ble_eq_true rfl⟩) (pw_preV (va_recv hKc hPc (ci := 11) (q0 := 0) rfl rfl) hPc hKc hDc hN) rfl rfl hl.1 rfl (lv_room (Nat.le_of_ble_eq_true rfl)) dX11_sheet_92 ⟨Nat.le_of_ble_eq_true rfl, Nat.le_of_ble_eq_true rfl⟩) hS (fun q _ h => hFc q h) hFc (fun r9 u t H1 locs ht hvm hw hB hz1 hk1 hS => ?_)
                have hr9 : r9 = 1 := hw
                obtain ⟨hP1, hK1, hD1⟩ := hB
                rw [ht] at hP1
                obtain ⟨hP, hD⟩ := va_join (wr := [(ss, .inl (cI, 4, .inl (upd (fun _ => (-1)) (k).toNatClampNeg n))), (sl, .inl (cI, 4, .inl (upd (fun _ => 0) (k).toNatClampNeg ln))), (sa, .inl (cI, 192, .inl (fun _ => 0)))]) (w1 := [(qm, .inr (11, [.int 0, w1, w2, w3, w4, w5, w6, .ref ss, .ref sl, .ref sa, w10, w11, w12, w13, w14, w15, w16, w17, w18, w19, w20, w21, w22, w23, w24, w25, w26, w27, w28, w29, w30, w31, w32, w33, w34, w35, w36, w37, w38]))]) hP hD [0] [1, 2, 3] rfl rfl (by decide) (by decide) hk1 hFc hP1 hD1
                generalize H1 = H at hP hS ⊢
                have hP : va_P (dC, dI) vwCl [(ss, .inl (cI, 4, .inl (upd (fun _ => (-1)) (k).toNatClampNeg n))), (sl, .inl (cI, 4, .inl (upd (fun _ => 0) (k).toNatClampNeg ln))), (sa, .inl (cI, 192, .inl (fun _ => 0))), (qm, .inr (11, [.int 0, w1, w2, w3, w4, w5, w6, .ref ss, .ref sl, .ref sa, w10, w11, w12, w13, w14, w15, w16, w17, w18, w19, w20, w21, w22, w23, w24, w25, w26, w27, w28, w29, w30, w31, w32, w33, w34, w35, w36, w37, w38]))] H := hP
                have hD : va_D _ [(ss, .inl (cI, 4, .inl (upd (fun _ => (-1)) (k).toNatClampNeg n))), (sl, .inl (cI, 4, .inl (upd (fun _ => 0) (k).toNatClampNeg ln))), (sa, .inl (cI, 192, .inl (fun _ => 0))), (qm, .inr (11, [.int 0, w1, w2, w3, w4, w5, w6, .ref ss, .ref sl, .ref sa, w10, w11, w12, w13, w14, w15, w16, w17, w18, w19, w20, w21, w22, w23, w24, w25, w26, w27, w28, w29, w30, w31, w32, w33, w34, w35, w36, w37, w38]))] := hD
                rw [hQ]
                exact W.iret (v := r9) hx hb hr (fun t ht hW => ⟨⟨r9, (), rfl, (by rw [hr9]; simp [sp_sheet, c2, c4, c6, c7, c8]), trivial⟩, hS.F ht⟩) hS.2.2 dX11_sheet_95
              · skip
                have hlti65 : i65 < nn := (Nat.lt_or_ge i65 nn).elim id (fun q => absurd (show nI nn ≤ nI i65 from nI_le q (by omega)) c8)
                refine lv_aload_n hx hb dX11_sheet_71 rfl (lv_at hl 1 rfl) ?_
                refine va_get (D := (dC, dI)) (ci := 11) (v := .ref sa) (C := RX11) (T := TX11) (N := 39) hx hb hts hiX11 hown hK hP 0 rfl rfl 9 (by decide) (hts (.fieldLink RX11 28 "TributePitchesModel" "sheet" "[I") (by decide +kernel)) (fun _ h9 => h9) rfl dX11_sheet_72 ?_
                refine lv_bipush (v := 48) hx hb dX11_sheet_75 (by decide) ?_
                refine lv_iload_n hx hb dX11_sheet_77 rfl (lv_at hl 2 rfl) ?_
                refine lv_imul hx hb dX11_sheet_78 ?_
                refine lv_iload hx hb dX11_sheet_79 (lv_at hl 0 rfl) ?_
                refine lv_iadd hx hb dX11_sheet_81 ?_
                refine lv_iconst (v := 0) hx hb dX11_sheet_82 (by decide) ?_
                refine va_iast hx hb hK hP hD hS 3 0 rfl rfl (sh_in c2 (by omega)) dX11_sheet_83 (fun H locs hP hD hS => ?_)
                have hP : va_P (dC, dI) vwCl [(qm, .inr (11, [w0, w1, w2, w3, w4, w5, w6, .ref ss, .ref sl, .ref sa, w10, w11, w12, w13, w14, w15, w16, w17, w18, w19, w20, w21, w22, w23, w24, w25, w26, w27, w28, w29, w30, w31, w32, w33, w34, w35, w36, w37, w38])), (ss, .inl (cI, 4, .inl (upd (fun _ => (-1)) (k).toNatClampNeg n))), (sl, .inl (cI, 4, .inl (upd (fun _ => 0) (k).toNatClampNeg ln))), (sa, .inl (cI, 192, .inl (upd (fun _ => 0) ((48 * k) + (nI i65)).toNatClampNeg 0)))] H := hP
                have hD : va_D _ [(qm, .inr (11, [w0, w1, w2, w3, w4, w5, w6, .ref ss, .ref sl, .ref sa, w10, w11, w12, w13, w14, w15, w16, w17, w18, w19, w20, w21, w22, w23, w24, w25, w26, w27, w28, w29, w30, w31, w32, w33, w34, w35, w36, w37, w38])), (ss, .inl (cI, 4, .inl (upd (fun _ => (-1)) (k).toNatClampNeg n))), (sl, .inl (cI, 4, .inl (upd (fun _ => 0) (k).toNatClampNeg ln))), (sa, .inl (cI, 192, .inl (upd (fun _ => 0) ((48 * k) + (nI i65)).toNatClampNeg 0)))] := hD
                have hP := va_P_cg hP 3 (fun _ => 0) rfl (fun j _ => congrFun (fa_upd_same rfl) j)
                have hD := va_D_cg hD 3 (fun _ => 0) rfl
                have hP : va_P (dC, dI) vwCl [(qm, .inr (11, [w0, w1, w2, w3, w4, w5, w6, .ref ss, .ref sl, .ref sa, w10, w11, w12, w13, w14, w15, w16, w17, w18, w19, w20, w21, w22, w23, w24, w25, w26, w27, w28, w29, w30, w31, w32, w33, w34, w35, w36, w37, w38])), (ss, .inl (cI, 4, .inl (upd (fun _ => (-1)) (k).toNatClampNeg n))), (sl, .inl (cI, 4, .inl (upd (fun _ => 0) (k).toNatClampNeg ln))), (sa, .inl (cI, 192, .inl (fun _ => 0)))] H := hP
                have hD : va_D _ [(qm, .inr (11, [w0, w1, w2, w3, w4, w5, w6, .ref ss, .ref sl, .ref sa, w10, w11, w12, w13, w14, w15, w16, w17, w18, w19, w20, w21, w22, w23, w24, w25, w26, w27, w28, w29, w30, w31, w32, w33, w34, w35, w36, w37, w38])), (ss, .inl (cI, 4, .inl (upd (fun _ => (-1)) (k).toNatClampNeg n))), (sl, .inl (cI, 4, .inl (upd (fun _ => 0) (k).toNatClampNeg ln))), (sa, .inl (cI, 192, .inl (fun _ => 0)))] := hD
                refine lv_iinc (v := nI (i65 + 1)) (lv' := [(4, .int (nI (i65 + 1))), (0, .ref qm), (1, .int k), (2, .int ln), (3, .int (nI nn))]) hx hb dX11_sheet_84 hl (k := 0) rfl (nI_1 i65) (by decide) rfl (fun ls hl => ?_)
                refine lv_goto (tgt := 65) hx hb dX11_sheet_87 (by decide) ?_
                exact ihi65 (i65 + 1)  _ _ ls (by omega) (by omega)  (hP.sub [0, 1, 2, 3] rfl) (hD.sub [0, 1, 2, 3] (by decide) rfl) hS (lv_sub hl [0, 1, 2, 3, 4] rfl)
          exact loop65 (nn + 1 - 0) 0  _ _ ls (by omega) (by omega)  hP hD hS (lv_sub hl [0, 1, 2, 3, 4] rfl)
        · skip
          refine lv_aload_n hx hb dX11_sheet_42 rfl (lv_at hl 0 rfl) ?_
          refine lv_iconst (v := 4) hx hb dX11_sheet_43 (by decide) ?_
          have hPc := hP.sub (ws' := [(qm, .inr (11, [w0, w1, w2, w3, w4, w5, w6, .ref ss, .ref sl, .ref sa, w10, w11, w12, w13, w14, w15, w16, w17, w18, w19, w20, w21, w22, w23, w24, w25, w26, w27, w28, w29, w30, w31, w32, w33, w34, w35, w36, w37, w38]))]) [0] rfl
          have hDc := hD.sub (ws' := [(qm, .inr (11, [w0, w1, w2, w3, w4, w5, w6, .ref ss, .ref sl, .ref sa, w10, w11, w12, w13, w14, w15, w16, w17, w18, w19, w20, w21, w22, w23, w24, w25, w26, w27, w28, w29, w30, w31, w32, w33, w34, w35, w36, w37, w38]))]) [0] (by decide) rfl
          have hKc := hK.sub (tys' := []) [] rfl
          have hFc := va_free (wc := [(qm, .inr (11, [w0, w1, w2, w3, w4, w5, w6, .ref ss, .ref sl, .ref sa, w10, w11, w12, w13, w14, w15, w16, w17, w18, w19, w20, w21, w22, w23, w24, w25, w26, w27, w28, w29, w30, w31, w32, w33, w34, w35, w36, w37, w38]))]) hD hS hA [0] rfl
          refine va_calli (va_runV (As := [.int 4]) (rest := []) ⟨hx, hb, hml, hown, hts⟩ (c_X11_failed l dC dI  _ qm w0 w1 w2 w3 w4 w5 w6 (.ref ss) (.ref sl) (.ref sa) w10 w11 w12 w13 w14 w15 w16 w17 w18 w19 w20 w21 w22 w23 w24 w25 w26 w27 w28 w29 w30 w31 w32 w33 w34 w35 w36 w37 w38 4 ) (cwV 1 hts gX11_sheet_X11_failed rfl rfl rfl (by decide +kernel) ⟨Nat.le_of_ble_eq_true rfl, Nat.le_of_ble_eq_true rfl⟩) (pw_preV (va_recv hKc hPc (ci := 11) (q0 := 0) rfl rfl) hPc hKc hDc hN) rfl rfl hl.1 rfl (lv_room (Nat.le_of_ble_eq_true rfl)) dX11_sheet_44 ⟨Nat.le_of_ble_eq_true rfl, Nat.le_of_ble_eq_true rfl⟩) hS (fun q _ h => hFc q h) hFc (fun r10 u t H1 locs ht hvm hw hB hz1 hk1 hS => ?_)
          have hr10 : r10 = -10 - 4 := hw
          obtain ⟨hP1, hK1, hD1⟩ := hB
          rw [ht] at hP1
          obtain ⟨hP, hD⟩ := va_join (wr := [(ss, .inl (cI, 4, .inl (fun _ => (-1)))), (sl, .inl (cI, 4, .inl (fun _ => 0))), (sa, .inl (cI, 192, .inl (fun _ => 0)))]) (w1 := [(qm, .inr (11, [.int 4, w1, w2, w3, w4, w5, w6, .ref ss, .ref sl, .ref sa, w10, w11, w12, w13, w14, w15, w16, w17, w18, w19, w20, w21, w22, w23, w24, w25, w26, w27, w28, w29, w30, w31, w32, w33, w34, w35, w36, w37, w38]))]) hP hD [0] [1, 2, 3] rfl rfl (by decide) (by decide) hk1 hFc hP1 hD1
          generalize H1 = H at hP hS ⊢
          have hP : va_P (dC, dI) vwCl [(ss, .inl (cI, 4, .inl (fun _ => (-1)))), (sl, .inl (cI, 4, .inl (fun _ => 0))), (sa, .inl (cI, 192, .inl (fun _ => 0))), (qm, .inr (11, [.int 4, w1, w2, w3, w4, w5, w6, .ref ss, .ref sl, .ref sa, w10, w11, w12, w13, w14, w15, w16, w17, w18, w19, w20, w21, w22, w23, w24, w25, w26, w27, w28, w29, w30, w31, w32, w33, w34, w35, w36, w37, w38]))] H := hP
          have hD : va_D _ [(ss, .inl (cI, 4, .inl (fun _ => (-1)))), (sl, .inl (cI, 4, .inl (fun _ => 0))), (sa, .inl (cI, 192, .inl (fun _ => 0))), (qm, .inr (11, [.int 4, w1, w2, w3, w4, w5, w6, .ref ss, .ref sl, .ref sa, w10, w11, w12, w13, w14, w15, w16, w17, w18, w19, w20, w21, w22, w23, w24, w25, w26, w27, w28, w29, w30, w31, w32, w33, w34, w35, w36, w37, w38]))] := hD
          rw [hQ]
          exact W.iret (v := r10) hx hb hr (fun t ht hW => ⟨⟨r10, (), rfl, (by rw [hr10]; simp [sp_sheet, c2, c4, c6, c7]), trivial⟩, hS.F ht⟩) hS.2.2 dX11_sheet_47
      · skip
        refine lv_aload_n hx hb dX11_sheet_31 rfl (lv_at hl 0 rfl) ?_
        refine lv_bipush (v := (-2)) hx hb dX11_sheet_32 (by decide) ?_
        have hPc := hP.sub (ws' := [(qm, .inr (11, [w0, w1, w2, w3, w4, w5, w6, .ref ss, .ref sl, .ref sa, w10, w11, w12, w13, w14, w15, w16, w17, w18, w19, w20, w21, w22, w23, w24, w25, w26, w27, w28, w29, w30, w31, w32, w33, w34, w35, w36, w37, w38]))]) [0] rfl
        have hDc := hD.sub (ws' := [(qm, .inr (11, [w0, w1, w2, w3, w4, w5, w6, .ref ss, .ref sl, .ref sa, w10, w11, w12, w13, w14, w15, w16, w17, w18, w19, w20, w21, w22, w23, w24, w25, w26, w27, w28, w29, w30, w31, w32, w33, w34, w35, w36, w37, w38]))]) [0] (by decide) rfl
        have hKc := hK.sub (tys' := []) [] rfl
        have hFc := va_free (wc := [(qm, .inr (11, [w0, w1, w2, w3, w4, w5, w6, .ref ss, .ref sl, .ref sa, w10, w11, w12, w13, w14, w15, w16, w17, w18, w19, w20, w21, w22, w23, w24, w25, w26, w27, w28, w29, w30, w31, w32, w33, w34, w35, w36, w37, w38]))]) hD hS hA [0] rfl
        refine va_calli (va_runV (As := [.int (-2)]) (rest := []) ⟨hx, hb, hml, hown, hts⟩ (c_X11_refused l dC dI  _ qm w0 w1 w2 w3 w4 w5 w6 (.ref ss) (.ref sl) (.ref sa) w10 w11 w12 w13 w14 w15 w16 w17 w18 w19 w20 w21 w22 w23 w24 w25 w26 w27 w28 w29 w30 w31 w32 w33 w34 w35 w36 w37 w38 (-2) ) (cwV 1 hts gX11_sheet_X11_refused rfl rfl rfl (by decide +kernel) ⟨Nat.le_of_ble_eq_true rfl, Nat.le_of_ble_eq_true rfl⟩) (pw_preV (va_recv hKc hPc (ci := 11) (q0 := 0) rfl rfl) hPc hKc hDc hN) rfl rfl hl.1 rfl (lv_room (Nat.le_of_ble_eq_true rfl)) dX11_sheet_34 ⟨Nat.le_of_ble_eq_true rfl, Nat.le_of_ble_eq_true rfl⟩) hS (fun q _ h => hFc q h) hFc (fun r11 u t H1 locs ht hvm hw hB hz1 hk1 hS => ?_)
        have hr11 : r11 = (-2) := hw
        obtain ⟨hP1, hK1, hD1⟩ := hB
        rw [ht] at hP1
        obtain ⟨hP, hD⟩ := va_join (wr := [(ss, .inl (cI, 4, .inl (fun _ => (-1)))), (sl, .inl (cI, 4, .inl (fun _ => 0))), (sa, .inl (cI, 192, .inl (fun _ => 0)))]) (w1 := [(qm, .inr (11, [.int 0, w1, w2, w3, w4, w5, w6, .ref ss, .ref sl, .ref sa, w10, w11, w12, w13, w14, w15, w16, w17, w18, w19, w20, w21, w22, w23, w24, w25, w26, w27, w28, w29, w30, w31, w32, w33, w34, w35, w36, w37, w38]))]) hP hD [0] [1, 2, 3] rfl rfl (by decide) (by decide) hk1 hFc hP1 hD1
        generalize H1 = H at hP hS ⊢
        have hP : va_P (dC, dI) vwCl [(ss, .inl (cI, 4, .inl (fun _ => (-1)))), (sl, .inl (cI, 4, .inl (fun _ => 0))), (sa, .inl (cI, 192, .inl (fun _ => 0))), (qm, .inr (11, [.int 0, w1, w2, w3, w4, w5, w6, .ref ss, .ref sl, .ref sa, w10, w11, w12, w13, w14, w15, w16, w17, w18, w19, w20, w21, w22, w23, w24, w25, w26, w27, w28, w29, w30, w31, w32, w33, w34, w35, w36, w37, w38]))] H := hP
        have hD : va_D _ [(ss, .inl (cI, 4, .inl (fun _ => (-1)))), (sl, .inl (cI, 4, .inl (fun _ => 0))), (sa, .inl (cI, 192, .inl (fun _ => 0))), (qm, .inr (11, [.int 0, w1, w2, w3, w4, w5, w6, .ref ss, .ref sl, .ref sa, w10, w11, w12, w13, w14, w15, w16, w17, w18, w19, w20, w21, w22, w23, w24, w25, w26, w27, w28, w29, w30, w31, w32, w33, w34, w35, w36, w37, w38]))] := hD
        rw [hQ]
        exact W.iret (v := r11) hx hb hr (fun t ht hW => ⟨⟨r11, (), rfl, (by rw [hr11]; simp [sp_sheet, c2, c4, c6]), trivial⟩, hS.F ht⟩) hS.2.2 dX11_sheet_37
  · skip
    have c2 := (fa_bool_prop hr1).2.mp c2
    refine lv_aload_n hx hb dX11_sheet_7 rfl (lv_at hl 0 rfl) ?_
    refine lv_iconst (v := (-1)) hx hb dX11_sheet_8 (by decide) ?_
    have hPc := hP.sub (ws' := [(qm, .inr (11, [w0, w1, w2, w3, w4, w5, w6, .ref ss, .ref sl, .ref sa, w10, w11, w12, w13, w14, w15, w16, w17, w18, w19, w20, w21, w22, w23, w24, w25, w26, w27, w28, w29, w30, w31, w32, w33, w34, w35, w36, w37, w38]))]) [0] rfl
    have hDc := hD.sub (ws' := [(qm, .inr (11, [w0, w1, w2, w3, w4, w5, w6, .ref ss, .ref sl, .ref sa, w10, w11, w12, w13, w14, w15, w16, w17, w18, w19, w20, w21, w22, w23, w24, w25, w26, w27, w28, w29, w30, w31, w32, w33, w34, w35, w36, w37, w38]))]) [0] (by decide) rfl
    have hKc := hK.sub (tys' := []) [] rfl
    have hFc := va_free (wc := [(qm, .inr (11, [w0, w1, w2, w3, w4, w5, w6, .ref ss, .ref sl, .ref sa, w10, w11, w12, w13, w14, w15, w16, w17, w18, w19, w20, w21, w22, w23, w24, w25, w26, w27, w28, w29, w30, w31, w32, w33, w34, w35, w36, w37, w38]))]) hD hS hA [0] rfl
    refine va_calli (va_runV (As := [.int (-1)]) (rest := []) ⟨hx, hb, hml, hown, hts⟩ (c_X11_refused l dC dI  _ qm w0 w1 w2 w3 w4 w5 w6 (.ref ss) (.ref sl) (.ref sa) w10 w11 w12 w13 w14 w15 w16 w17 w18 w19 w20 w21 w22 w23 w24 w25 w26 w27 w28 w29 w30 w31 w32 w33 w34 w35 w36 w37 w38 (-1) ) (cwV 1 hts gX11_sheet_X11_refused rfl rfl rfl (by decide +kernel) ⟨Nat.le_of_ble_eq_true rfl, Nat.le_of_ble_eq_true rfl⟩) (pw_preV (va_recv hKc hPc (ci := 11) (q0 := 0) rfl rfl) hPc hKc hDc hN) rfl rfl hl.1 rfl (lv_room (Nat.le_of_ble_eq_true rfl)) dX11_sheet_9 ⟨Nat.le_of_ble_eq_true rfl, Nat.le_of_ble_eq_true rfl⟩) hS (fun q _ h => hFc q h) hFc (fun r12 u t H1 locs ht hvm hw hB hz1 hk1 hS => ?_)
    have hr12 : r12 = (-1) := hw
    obtain ⟨hP1, hK1, hD1⟩ := hB
    rw [ht] at hP1
    obtain ⟨hP, hD⟩ := va_join (wr := [(ss, .inl (cI, 4, .inl (fun _ => (-1)))), (sl, .inl (cI, 4, .inl (fun _ => 0))), (sa, .inl (cI, 192, .inl (fun _ => 0)))]) (w1 := [(qm, .inr (11, [.int 0, w1, w2, w3, w4, w5, w6, .ref ss, .ref sl, .ref sa, w10, w11, w12, w13, w14, w15, w16, w17, w18, w19, w20, w21, w22, w23, w24, w25, w26, w27, w28, w29, w30, w31, w32, w33, w34, w35, w36, w37, w38]))]) hP hD [0] [1, 2, 3] rfl rfl (by decide) (by decide) hk1 hFc hP1 hD1
    generalize H1 = H at hP hS ⊢
    have hP : va_P (dC, dI) vwCl [(ss, .inl (cI, 4, .inl (fun _ => (-1)))), (sl, .inl (cI, 4, .inl (fun _ => 0))), (sa, .inl (cI, 192, .inl (fun _ => 0))), (qm, .inr (11, [.int 0, w1, w2, w3, w4, w5, w6, .ref ss, .ref sl, .ref sa, w10, w11, w12, w13, w14, w15, w16, w17, w18, w19, w20, w21, w22, w23, w24, w25, w26, w27, w28, w29, w30, w31, w32, w33, w34, w35, w36, w37, w38]))] H := hP
    have hD : va_D _ [(ss, .inl (cI, 4, .inl (fun _ => (-1)))), (sl, .inl (cI, 4, .inl (fun _ => 0))), (sa, .inl (cI, 192, .inl (fun _ => 0))), (qm, .inr (11, [.int 0, w1, w2, w3, w4, w5, w6, .ref ss, .ref sl, .ref sa, w10, w11, w12, w13, w14, w15, w16, w17, w18, w19, w20, w21, w22, w23, w24, w25, w26, w27, w28, w29, w30, w31, w32, w33, w34, w35, w36, w37, w38]))] := hD
    rw [hQ]
    exact W.iret (v := r12) hx hb hr (fun t ht hW => ⟨⟨r12, (), rfl, (by rw [hr12]; simp [sp_sheet, c2]), trivial⟩, hS.F ht⟩) hS.2.2 dX11_sheet_12
set_option maxHeartbeats 4000000 in
set_option maxRecDepth 100000 in
theorem c_X11_good (l : Launch) (dC : Nat → ClassId) (dI : Nat → Nat → Nat) (cI : ClassId) (sz : Nat) (qm : Nat) (w0 : Value) (w1 : Value) (w4 : Value) (w5 : Value) (w6 : Value) (w7 : Value) (w8 : Value) (w9 : Value) (w10 : Value) (w11 : Value) (w12 : Value) (w13 : Value) (w14 : Value) (w15 : Value) (w16 : Value) (w17 : Value) (w18 : Value) (w19 : Value) (w20 : Value) (w21 : Value) (w22 : Value) (w23 : Value) (w24 : Value) (w25 : Value) (w26 : Value) (w27 : Value) (w28 : Value) (w29 : Value) (w30 : Value) (w31 : Value) (w32 : Value) (w33 : Value) (w34 : Value) (w35 : Value) (w36 : Value) (w37 : Value) (w38 : Value) (lo : Nat) (hi : Nat) (x : Int32) (y : Int32) (wh : Int32)  : Met l yX11_good wsX11_good ({ frames := 2, cells := 0, slots := 0, locals := 60 }) (pw (dC, dI) [(cI, .int)] [(qm, .inr (11, [w0, w1, .ref lo, .ref hi, w4, w5, w6, w7, w8, w9, w10, w11, w12, w13, w14, w15, w16, w17, w18, w19, w20, w21, w22, w23, w24, w25, w26, w27, w28, w29, w30, w31, w32, w33, w34, w35, w36, w37, w38])), (lo, .inl (cI, 48, .inl (fun _ => 0))), (hi, .inl (cI, 48, .inl (fun _ => 1000)))] sz [.ref qm, .int x, .int y, .int wh]) (vp_Si (fun r => r = sp_good x y wh)) 0 0 (fun _ => False) := by
  refine pw_met (cc := cX11_good) (maxL := 4) (ret := (some .int)) (by decide) rfl (Nat.le_of_ble_eq_true rfl) ?_
  intro p e s m below meth c0 hx hb hr hml hown hlocks hnm hts hP hK hD hN hsz hA hS ls hl
  have hl : lv_has ls 4 [(0, .ref qm), (1, .int x), (2, .int y), (3, .int wh)] := hl
  have hiX11 : ∀ w ∈ wsX110, w ∈ wsX11_good := by decide +kernel
  refine lv_iload_n hx hb dX11_good_0 rfl (lv_at hl 1 rfl) ?_
  refine lv_iload_n hx hb dX11_good_1 rfl (lv_at hl 2 rfl) ?_
  refine vp_callSi (va_Run.run (va_runS (As := [.int x, .int y]) (rest := []) ⟨hx, hb, hml, hown, hts⟩ (c_X11_isSquare l x y ) (va_cwS 2 hts gX11_good_X11_isSquare rfl rfl rfl (by decide +kernel) ⟨Nat.le_of_ble_eq_true rfl, Nat.le_of_ble_eq_true rfl⟩) (p0_preS hN) rfl rfl hl.1 rfl (lv_room (Nat.le_of_ble_eq_true rfl)) dX11_good_2 ⟨Nat.le_of_ble_eq_true rfl, Nat.le_of_ble_eq_true rfl⟩)) (fun r1 hr1 => ?_)
  have hr1 : r1 = if (0 ≤ x ∧ x ≤ 7) ∧ (0 ≤ y ∧ y ≤ 5) then 1 else 0 := hr1
  refine lv_if_ne (tgt := 10) hx hb dX11_good_5 (by decide) (fun c2 => ?_) (fun c2 => ?_)
  · skip
    have c2 := (fa_bool_prop hr1).2.mp c2
    refine lv_iload_n hx hb dX11_good_10 rfl (lv_at hl 3 rfl) ?_
    refine lv_if_ne (tgt := 28) hx hb dX11_good_11 (by decide) (fun c3 => ?_) (fun c3 => ?_)
    · skip
      refine lv_iload_n hx hb dX11_good_28 rfl (lv_at hl 3 rfl) ?_
      refine lv_iconst (v := 1) hx hb dX11_good_29 (by decide) ?_
      refine lv_icmp_ne (tgt := 47) hx hb dX11_good_30 (by decide) (fun c4 => ?_) (fun c4 => ?_)
      · skip
        refine lv_bipush (v := (-2)) hx hb dX11_good_47 (by decide) ?_
        exact W.iret (v := (-2)) hx hb hr (fun t ht hW => ⟨(-2), rfl, (by rw [sp_good, if_pos c2, if_neg (w01 c3 c4)]), ht⟩) (fun q h => absurd h List.not_mem_nil) dX11_good_49
      · skip
        refine lv_aload_n hx hb dX11_good_33 rfl (lv_at hl 0 rfl) ?_
        refine va_get (D := (dC, dI)) (ci := 11) (v := .ref hi) (C := RX11) (T := TX11) (N := 39) hx hb hts hiX11 hown hK hP 0 rfl rfl 3 (by decide) (hts (.fieldLink RX11 13 "TributePitchesModel" "high" "[I") (by decide +kernel)) (fun _ h9 => h9) rfl dX11_good_34 ?_
        refine lv_bipush (v := 8) hx hb dX11_good_37 (by decide) ?_
        refine lv_iload_n hx hb dX11_good_39 rfl (lv_at hl 2 rfl) ?_
        refine lv_imul hx hb dX11_good_40 ?_
        refine lv_iload_n hx hb dX11_good_41 rfl (lv_at hl 1 rfl) ?_
        refine lv_iadd hx hb dX11_good_42 ?_
        refine va_iald hx hb hK hP 2 0 rfl rfl (sq_in c2) dX11_good_43 ?_
        refine W.eq (g2 := F0 m 44 ls [.int 1000]) rfl ?_
        refine lv_goto (tgt := 49) hx hb dX11_good_44 (by decide) ?_
        exact W.iret (v := 1000) hx hb hr (fun t ht hW => ⟨1000, rfl, (by rw [sp_good, if_pos c2, c4, if_pos (by decide), if_neg (by decide)]), ht⟩) (fun q h => absurd h List.not_mem_nil) dX11_good_49
    · skip
      refine lv_aload_n hx hb dX11_good_14 rfl (lv_at hl 0 rfl) ?_
      refine va_get (D := (dC, dI)) (ci := 11) (v := .ref lo) (C := RX11) (T := TX11) (N := 39) hx hb hts hiX11 hown hK hP 0 rfl rfl 2 (by decide) (hts (.fieldLink RX11 7 "TributePitchesModel" "low" "[I") (by decide +kernel)) (fun _ h9 => h9) rfl dX11_good_15 ?_
      refine lv_bipush (v := 8) hx hb dX11_good_18 (by decide) ?_
      refine lv_iload_n hx hb dX11_good_20 rfl (lv_at hl 2 rfl) ?_
      refine lv_imul hx hb dX11_good_21 ?_
      refine lv_iload_n hx hb dX11_good_22 rfl (lv_at hl 1 rfl) ?_
      refine lv_iadd hx hb dX11_good_23 ?_
      refine va_iald hx hb hK hP 1 0 rfl rfl (sq_in c2) dX11_good_24 ?_
      refine W.eq (g2 := F0 m 25 ls [.int 0]) rfl ?_
      refine lv_goto (tgt := 49) hx hb dX11_good_25 (by decide) ?_
      exact W.iret (v := 0) hx hb hr (fun t ht hW => ⟨0, rfl, (by rw [sp_good, if_pos c2, c3, if_pos (by decide), if_pos rfl]), ht⟩) (fun q h => absurd h List.not_mem_nil) dX11_good_49
  · skip
    have c2 := (fa_bool_prop hr1).1.mp c2
    refine lv_iconst (v := (-1)) hx hb dX11_good_8 (by decide) ?_
    exact W.iret (v := (-1)) hx hb hr (fun t ht hW => ⟨(-1), rfl, (by rw [sp_good, if_neg c2]), ht⟩) (fun q h => absurd h List.not_mem_nil) dX11_good_9
set_option maxHeartbeats 4000000 in
set_option maxRecDepth 100000 in
theorem c_X11_find (l : Launch) (dC : Nat → ClassId) (dI : Nat → Nat → Nat) (cI : ClassId) (sz : Nat) (qm : Nat) (w0 : Value) (w6 : Value) (w7 : Value) (w8 : Value) (w9 : Value) (w10 : Value) (w11 : Value) (w12 : Value) (w13 : Value) (w14 : Value) (w15 : Value) (w16 : Value) (w17 : Value) (w18 : Value) (w19 : Value) (w20 : Value) (w21 : Value) (w22 : Value) (w23 : Value) (w24 : Value) (w25 : Value) (w26 : Value) (w27 : Value) (w28 : Value) (w29 : Value) (w30 : Value) (w31 : Value) (w32 : Value) (w33 : Value) (w34 : Value) (w35 : Value) (w36 : Value) (w37 : Value) (w38 : Value) (ra : Nat) (rb : Nat) (nl : Nat) (nh : Nat) (x : Int32) (y : Int32) (lo : Int32) (hi : Int32) (gl : Nat → Int32) (gh : Nat → Int32)  : Met l yX11_find wsX11_find ({ frames := 4, cells := 0, slots := 0, locals := 130 }) (pw (dC, dI) [(cI, .int)] [(qm, .inr (11, [w0, .int 1000, .ref ra, .ref rb, .ref nl, .ref nh, w6, w7, w8, w9, w10, w11, w12, w13, w14, w15, w16, w17, w18, w19, w20, w21, w22, w23, w24, w25, w26, w27, w28, w29, w30, w31, w32, w33, w34, w35, w36, w37, w38])), (ra, .inl (cI, 48, .inl (fun _ => 0))), (rb, .inl (cI, 48, .inl (fun _ => 1000))), (nl, .inl (cI, 48, .inl gl)), (nh, .inl (cI, 48, .inl gh))] sz [.ref qm, .int x, .int y, .int lo, .int hi]) (va_Qi (fun r (_ : Unit) => r = sp_find x y lo hi) (fun _ _ => True) (va_A [(qm, .inr (11, [w0, .int 1000, .ref ra, .ref rb, .ref nl, .ref nh, w6, w7, w8, w9, w10, w11, w12, w13, w14, w15, w16, w17, w18, w19, w20, w21, w22, w23, w24, w25, w26, w27, w28, w29, w30, w31, w32, w33, w34, w35, w36, w37, w38])), (ra, .inl (cI, 48, .inl (fun _ => 0))), (rb, .inl (cI, 48, .inl (fun _ => 1000))), (nl, .inl (cI, 48, .inl gl)), (nh, .inl (cI, 48, .inl gh))] sz)) 0 0 (va_A [(qm, .inr (11, [w0, .int 1000, .ref ra, .ref rb, .ref nl, .ref nh, w6, w7, w8, w9, w10, w11, w12, w13, w14, w15, w16, w17, w18, w19, w20, w21, w22, w23, w24, w25, w26, w27, w28, w29, w30, w31, w32, w33, w34, w35, w36, w37, w38])), (ra, .inl (cI, 48, .inl (fun _ => 0))), (rb, .inl (cI, 48, .inl (fun _ => 1000))), (nl, .inl (cI, 48, .inl gl)), (nh, .inl (cI, 48, .inl gh))] sz) := by
  refine pw_met (cc := cX11_find) (maxL := 5) (ret := (some .int)) (by decide) rfl (Nat.le_of_ble_eq_true rfl) ?_
  intro p e s m below meth c0 hx hb hr hml hown hlocks hnm hts hP hK hD hN hsz hA hS ls hl
  subst hsz
  have hl : lv_has ls 5 [(0, .ref qm), (1, .int x), (2, .int y), (3, .int lo), (4, .int hi)] := hl
  have hiX11 : ∀ w ∈ wsX110, w ∈ wsX11_find := by decide +kernel
  refine lv_iload_n hx hb dX11_find_0 rfl (lv_at hl 1 rfl) ?_
  refine lv_iload_n hx hb dX11_find_1 rfl (lv_at hl 2 rfl) ?_
  refine vp_callSi (va_Run.run (va_runS (As := [.int x, .int y]) (rest := []) ⟨hx, hb, hml, hown, hts⟩ (c_X11_isSquare l x y ) (va_cwS 2 hts gX11_find_X11_isSquare rfl rfl rfl (by decide +kernel) ⟨Nat.le_of_ble_eq_true rfl, Nat.le_of_ble_eq_true rfl⟩) (p0_preS hN) rfl rfl hl.1 rfl (lv_room (Nat.le_of_ble_eq_true rfl)) dX11_find_2 ⟨Nat.le_of_ble_eq_true rfl, Nat.le_of_ble_eq_true rfl⟩)) (fun r1 hr1 => ?_)
  have hr1 : r1 = if (0 ≤ x ∧ x ≤ 7) ∧ (0 ≤ y ∧ y ≤ 5) then 1 else 0 := hr1
  refine lv_if_ne (tgt := 10) hx hb dX11_find_5 (by decide) (fun c2 => ?_) (fun c2 => ?_)
  · skip
    have c2 := (fa_bool_prop hr1).2.mp c2
    refine lv_iload_n hx hb dX11_find_10 rfl (lv_at hl 3 rfl) ?_
    refine lv_i2l (v := lo.toInt64) hx hb dX11_find_11 rfl ?_
    refine lv_lconst (v := 0) hx hb dX11_find_12 (by decide) ?_
    refine lv_ldc2 (v := 1000) hx hb hown (hts (.constantLong RX11 133 (1000)) (by decide +kernel)) dX11_find_13 ?_
    refine vp_callSi (va_Run.run (va_runS (As := [.long lo.toInt64, .long 0, .long 1000]) (rest := []) ⟨hx, hb, hml, hown, hts⟩ (c_X11_in l lo.toInt64 0 1000 ) (va_cwS 3 hts gX11_find_X11_in rfl rfl rfl (by decide +kernel) ⟨Nat.le_of_ble_eq_true rfl, Nat.le_of_ble_eq_true rfl⟩) (p0_preS hN) rfl rfl hl.1 rfl (lv_room (Nat.le_of_ble_eq_true rfl)) dX11_find_16 ⟨Nat.le_of_ble_eq_true rfl, Nat.le_of_ble_eq_true rfl⟩)) (fun r3 hr3 => ?_)
    have hr3 : r3 = if 0 ≤ lo.toInt64 ∧ lo.toInt64 ≤ 1000 then 1 else 0 := hr3
    have hr3 := hr3.trans (in_w _ 0 1000 (by decide) (by decide))
    refine lv_if_eq (tgt := 36) hx hb dX11_find_19 (by decide) (fun c4 => ?_) (fun c4 => ?_)
    · skip
      have c4 := (fa_bool_prop hr3).1.mp c4
      refine lv_bipush (v := (-2)) hx hb dX11_find_36 (by decide) ?_
      exact W.iret (v := (-2)) hx hb hr (fun t ht hW => ⟨⟨(-2), (), rfl, (by rw [sp_find, if_pos c2, if_neg c4]), trivial⟩, hS.F ht⟩) hS.2.2 dX11_find_38
    · skip
      have c4 := (fa_bool_prop hr3).2.mp c4
      refine lv_iload hx hb dX11_find_22 (lv_at hl 4 rfl) ?_
      refine lv_i2l (v := hi.toInt64) hx hb dX11_find_24 rfl ?_
      refine lv_iload_n hx hb dX11_find_25 rfl (lv_at hl 3 rfl) ?_
      refine lv_i2l (v := lo.toInt64) hx hb dX11_find_26 rfl ?_
      refine lv_ldc2 (v := 1000) hx hb hown (hts (.constantLong RX11 133 (1000)) (by decide +kernel)) dX11_find_27 ?_
      refine vp_callSi (va_Run.run (va_runS (As := [.long hi.toInt64, .long lo.toInt64, .long 1000]) (rest := []) ⟨hx, hb, hml, hown, hts⟩ (c_X11_in l hi.toInt64 lo.toInt64 1000 ) (va_cwS 3 hts gX11_find_X11_in rfl rfl rfl (by decide +kernel) ⟨Nat.le_of_ble_eq_true rfl, Nat.le_of_ble_eq_true rfl⟩) (p0_preS hN) rfl rfl hl.1 rfl (lv_room (Nat.le_of_ble_eq_true rfl)) dX11_find_30 ⟨Nat.le_of_ble_eq_true rfl, Nat.le_of_ble_eq_true rfl⟩)) (fun r5 hr5 => ?_)
      have hr5 : r5 = if lo.toInt64 ≤ hi.toInt64 ∧ hi.toInt64 ≤ 1000 then 1 else 0 := hr5
      have hr5 := hr5.trans (in_w _ lo 1000 rfl (by decide))
      refine lv_if_ne (tgt := 39) hx hb dX11_find_33 (by decide) (fun c6 => ?_) (fun c6 => ?_)
      · skip
        have c6 := (fa_bool_prop hr5).2.mp c6
        refine lv_aload_n hx hb dX11_find_39 rfl (lv_at hl 0 rfl) ?_
        have hPc := hP.sub (ws' := [(qm, .inr (11, [w0, .int 1000, .ref ra, .ref rb, .ref nl, .ref nh, w6, w7, w8, w9, w10, w11, w12, w13, w14, w15, w16, w17, w18, w19, w20, w21, w22, w23, w24, w25, w26, w27, w28, w29, w30, w31, w32, w33, w34, w35, w36, w37, w38])), (ra, .inl (cI, 48, .inl (fun _ => 0))), (rb, .inl (cI, 48, .inl (fun _ => 1000))), (nl, .inl (cI, 48, .inl gl)), (nh, .inl (cI, 48, .inl gh))]) [0, 1, 2, 3, 4] rfl
        have hDc := hD.sub (ws' := [(qm, .inr (11, [w0, .int 1000, .ref ra, .ref rb, .ref nl, .ref nh, w6, w7, w8, w9, w10, w11, w12, w13, w14, w15, w16, w17, w18, w19, w20, w21, w22, w23, w24, w25, w26, w27, w28, w29, w30, w31, w32, w33, w34, w35, w36, w37, w38])), (ra, .inl (cI, 48, .inl (fun _ => 0))), (rb, .inl (cI, 48, .inl (fun _ => 1000))), (nl, .inl (cI, 48, .inl gl)), (nh, .inl (cI, 48, .inl gh))]) [0, 1, 2, 3, 4] (by decide) rfl
        have hKc := hK.sub (tys' := [(cI, .int)]) [0] rfl
        have hFc := va_free (wc := [(qm, .inr (11, [w0, .int 1000, .ref ra, .ref rb, .ref nl, .ref nh, w6, w7, w8, w9, w10, w11, w12, w13, w14, w15, w16, w17, w18, w19, w20, w21, w22, w23, w24, w25, w26, w27, w28, w29, w30, w31, w32, w33, w34, w35, w36, w37, w38])), (ra, .inl (cI, 48, .inl (fun _ => 0))), (rb, .inl (cI, 48, .inl (fun _ => 1000))), (nl, .inl (cI, 48, .inl gl)), (nh, .inl (cI, 48, .inl gh))]) hD hS hA [0, 1, 2, 3, 4] rfl
        refine va_callv (va_runV (As := []) (rest := []) ⟨hx, hb, hml, hown, hts⟩ (c_X11_layNew l dC dI cI _ qm w0 (.int 1000) w6 w7 w8 w9 w10 w11 w12 w13 w14 w15 w16 w17 w18 w19 w20 w21 w22 w23 w24 w25 w26 w27 w28 w29 w30 w31 w32 w33 w34 w35 w36 w37 w38 nl nh ra rb (fun _ => 0) (fun _ => 1000) gl gh ) (cwV 0 hts gX11_find_X11_layNew rfl rfl rfl (by decide +kernel) ⟨Nat.le_of_ble_eq_true rfl, Nat.le_of_ble_eq_true rfl⟩) (pw_preV (va_recv hKc hPc (ci := 11) (q0 := 0) rfl rfl) hPc hKc hDc hN) rfl rfl hl.1 rfl (lv_room (Nat.le_of_ble_eq_true rfl)) dX11_find_40 ⟨Nat.le_of_ble_eq_true rfl, Nat.le_of_ble_eq_true rfl⟩) hS (fun q _ h => hFc q h) hFc (fun u t H1 locs ht hvm hw hB hz1 hk1 hS => ?_)
        obtain ⟨hP1, hK1, hD1⟩ := hB
        rw [ht] at hP1
        obtain ⟨hP, hD⟩ := va_join (wr := []) (w1 := [(qm, .inr (11, [w0, .int 1000, .ref ra, .ref rb, .ref nl, .ref nh, w6, w7, w8, w9, w10, w11, w12, w13, w14, w15, w16, w17, w18, w19, w20, w21, w22, w23, w24, w25, w26, w27, w28, w29, w30, w31, w32, w33, w34, w35, w36, w37, w38])), (ra, .inl (cI, 48, .inl (fun _ => 0))), (rb, .inl (cI, 48, .inl (fun _ => 1000))), (nl, .inl (cI, 48, .inl (fun _ => 0))), (nh, .inl (cI, 48, .inl (fun _ => 1000)))]) hP hD [0, 1, 2, 3, 4] [] rfl rfl (by decide) (by decide) hk1 hFc hP1 hD1
        generalize H1 = H at hP hS ⊢
        have hP : va_P (dC, dI) vwCl [(qm, .inr (11, [w0, .int 1000, .ref ra, .ref rb, .ref nl, .ref nh, w6, w7, w8, w9, w10, w11, w12, w13, w14, w15, w16, w17, w18, w19, w20, w21, w22, w23, w24, w25, w26, w27, w28, w29, w30, w31, w32, w33, w34, w35, w36, w37, w38])), (ra, .inl (cI, 48, .inl (fun _ => 0))), (rb, .inl (cI, 48, .inl (fun _ => 1000))), (nl, .inl (cI, 48, .inl (fun _ => 0))), (nh, .inl (cI, 48, .inl (fun _ => 1000)))] H := hP
        have hD : va_D _ [(qm, .inr (11, [w0, .int 1000, .ref ra, .ref rb, .ref nl, .ref nh, w6, w7, w8, w9, w10, w11, w12, w13, w14, w15, w16, w17, w18, w19, w20, w21, w22, w23, w24, w25, w26, w27, w28, w29, w30, w31, w32, w33, w34, w35, w36, w37, w38])), (ra, .inl (cI, 48, .inl (fun _ => 0))), (rb, .inl (cI, 48, .inl (fun _ => 1000))), (nl, .inl (cI, 48, .inl (fun _ => 0))), (nh, .inl (cI, 48, .inl (fun _ => 1000)))] := hD
        refine lv_aload_n hx hb dX11_find_43 rfl (lv_at hl 0 rfl) ?_
        refine lv_bipush (v := 8) hx hb dX11_find_44 (by decide) ?_
        refine lv_iload_n hx hb dX11_find_46 rfl (lv_at hl 2 rfl) ?_
        refine lv_imul hx hb dX11_find_47 ?_
        refine lv_iload_n hx hb dX11_find_48 rfl (lv_at hl 1 rfl) ?_
        refine lv_iadd hx hb dX11_find_49 ?_
        refine lv_iload_n hx hb dX11_find_50 rfl (lv_at hl 3 rfl) ?_
        refine lv_iload hx hb dX11_find_51 (lv_at hl 4 rfl) ?_
        have hPc := hP.sub (ws' := [(qm, .inr (11, [w0, .int 1000, .ref ra, .ref rb, .ref nl, .ref nh, w6, w7, w8, w9, w10, w11, w12, w13, w14, w15, w16, w17, w18, w19, w20, w21, w22, w23, w24, w25, w26, w27, w28, w29, w30, w31, w32, w33, w34, w35, w36, w37, w38])), (nl, .inl (cI, 48, .inl (fun _ => 0))), (nh, .inl (cI, 48, .inl (fun _ => 1000)))]) [0, 3, 4] rfl
        have hDc := hD.sub (ws' := [(qm, .inr (11, [w0, .int 1000, .ref ra, .ref rb, .ref nl, .ref nh, w6, w7, w8, w9, w10, w11, w12, w13, w14, w15, w16, w17, w18, w19, w20, w21, w22, w23, w24, w25, w26, w27, w28, w29, w30, w31, w32, w33, w34, w35, w36, w37, w38])), (nl, .inl (cI, 48, .inl (fun _ => 0))), (nh, .inl (cI, 48, .inl (fun _ => 1000)))]) [0, 3, 4] (by decide) rfl
        have hKc := hK.sub (tys' := [(cI, .int)]) [0] rfl
        have hFc := va_free (wc := [(qm, .inr (11, [w0, .int 1000, .ref ra, .ref rb, .ref nl, .ref nh, w6, w7, w8, w9, w10, w11, w12, w13, w14, w15, w16, w17, w18, w19, w20, w21, w22, w23, w24, w25, w26, w27, w28, w29, w30, w31, w32, w33, w34, w35, w36, w37, w38])), (nl, .inl (cI, 48, .inl (fun _ => 0))), (nh, .inl (cI, 48, .inl (fun _ => 1000)))]) hD hS hA [0, 3, 4] rfl
        refine va_callv (va_runV (As := [.int ((8 * y) + x), .int lo, .int hi]) (rest := []) ⟨hx, hb, hml, hown, hts⟩ (c_X11_meet l dC dI cI _ qm w0 (.int 1000) (.ref ra) (.ref rb) w6 w7 w8 w9 w10 w11 w12 w13 w14 w15 w16 w17 w18 w19 w20 w21 w22 w23 w24 w25 w26 w27 w28 w29 w30 w31 w32 w33 w34 w35 w36 w37 w38 nl nh ((8 * y) + x) lo hi (fun _ => 0) (fun _ => 1000) (sq_in c2)) (cwV 3 hts gX11_find_X11_meet rfl rfl rfl (by decide +kernel) ⟨Nat.le_of_ble_eq_true rfl, Nat.le_of_ble_eq_true rfl⟩) (pw_preV (va_recv hKc hPc (ci := 11) (q0 := 0) rfl rfl) hPc hKc hDc hN) rfl rfl hl.1 rfl (lv_room (Nat.le_of_ble_eq_true rfl)) dX11_find_53 ⟨Nat.le_of_ble_eq_true rfl, Nat.le_of_ble_eq_true rfl⟩) hS (fun q _ h => hFc q h) hFc (fun u t H1 locs ht hvm hw hB hz1 hk1 hS => ?_)
        obtain ⟨ch_9, hP1, hK1, hD1⟩ := hB
        rw [ht] at hP1
        obtain ⟨hP, hD⟩ := va_join (wr := [(ra, .inl (cI, 48, .inl (fun _ => 0))), (rb, .inl (cI, 48, .inl (fun _ => 1000)))]) (w1 := [(qm, .inr (11, [w0, .int 1000, .ref ra, .ref rb, .ref nl, .ref nh, ch_9, w7, w8, w9, w10, w11, w12, w13, w14, w15, w16, w17, w18, w19, w20, w21, w22, w23, w24, w25, w26, w27, w28, w29, w30, w31, w32, w33, w34, w35, w36, w37, w38])), (nl, .inl (cI, 48, .inl (upd (fun _ => 0) (((8 * y) + x)).toNatClampNeg (if ((fun _ => 0) (((8 * y) + x)).toNatClampNeg) < lo then lo else ((fun _ => 0) (((8 * y) + x)).toNatClampNeg))))), (nh, .inl (cI, 48, .inl (upd (fun _ => 1000) (((8 * y) + x)).toNatClampNeg (if hi < ((fun _ => 1000) (((8 * y) + x)).toNatClampNeg) then hi else ((fun _ => 1000) (((8 * y) + x)).toNatClampNeg)))))]) hP hD [0, 3, 4] [1, 2] rfl rfl (by decide) (by decide) hk1 hFc hP1 hD1
        generalize H1 = H at hP hS ⊢
        have hP : va_P (dC, dI) vwCl [(ra, .inl (cI, 48, .inl (fun _ => 0))), (rb, .inl (cI, 48, .inl (fun _ => 1000))), (qm, .inr (11, [w0, .int 1000, .ref ra, .ref rb, .ref nl, .ref nh, ch_9, w7, w8, w9, w10, w11, w12, w13, w14, w15, w16, w17, w18, w19, w20, w21, w22, w23, w24, w25, w26, w27, w28, w29, w30, w31, w32, w33, w34, w35, w36, w37, w38])), (nl, .inl (cI, 48, .inl (upd (fun _ => 0) (((8 * y) + x)).toNatClampNeg (if ((fun _ => 0) (((8 * y) + x)).toNatClampNeg) < lo then lo else ((fun _ => 0) (((8 * y) + x)).toNatClampNeg))))), (nh, .inl (cI, 48, .inl (upd (fun _ => 1000) (((8 * y) + x)).toNatClampNeg (if hi < ((fun _ => 1000) (((8 * y) + x)).toNatClampNeg) then hi else ((fun _ => 1000) (((8 * y) + x)).toNatClampNeg)))))] H := hP
        have hD : va_D _ [(ra, .inl (cI, 48, .inl (fun _ => 0))), (rb, .inl (cI, 48, .inl (fun _ => 1000))), (qm, .inr (11, [w0, .int 1000, .ref ra, .ref rb, .ref nl, .ref nh, ch_9, w7, w8, w9, w10, w11, w12, w13, w14, w15, w16, w17, w18, w19, w20, w21, w22, w23, w24, w25, w26, w27, w28, w29, w30, w31, w32, w33, w34, w35, w36, w37, w38])), (nl, .inl (cI, 48, .inl (upd (fun _ => 0) (((8 * y) + x)).toNatClampNeg (if ((fun _ => 0) (((8 * y) + x)).toNatClampNeg) < lo then lo else ((fun _ => 0) (((8 * y) + x)).toNatClampNeg))))), (nh, .inl (cI, 48, .inl (upd (fun _ => 1000) (((8 * y) + x)).toNatClampNeg (if hi < ((fun _ => 1000) (((8 * y) + x)).toNatClampNeg) then hi else ((fun _ => 1000) (((8 * y) + x)).toNatClampNeg)))))] := hD
        have hP := va_P_cg hP 3 (fnl (8 * y + x).toNatClampNeg lo) rfl (fun j _ => fnl_eq c4.1 _ j)
        have hD := va_D_cg hD 3 (fnl (8 * y + x).toNatClampNeg lo) rfl
        have hP : va_P (dC, dI) vwCl [(ra, .inl (cI, 48, .inl (fun _ => 0))), (rb, .inl (cI, 48, .inl (fun _ => 1000))), (qm, .inr (11, [w0, .int 1000, .ref ra, .ref rb, .ref nl, .ref nh, ch_9, w7, w8, w9, w10, w11, w12, w13, w14, w15, w16, w17, w18, w19, w20, w21, w22, w23, w24, w25, w26, w27, w28, w29, w30, w31, w32, w33, w34, w35, w36, w37, w38])), (nl, .inl (cI, 48, .inl (fnl (8 * y + x).toNatClampNeg lo))), (nh, .inl (cI, 48, .inl (upd (fun _ => 1000) (((8 * y) + x)).toNatClampNeg (if hi < ((fun _ => 1000) (((8 * y) + x)).toNatClampNeg) then hi else ((fun _ => 1000) (((8 * y) + x)).toNatClampNeg)))))] H := hP
        have hD : va_D _ [(ra, .inl (cI, 48, .inl (fun _ => 0))), (rb, .inl (cI, 48, .inl (fun _ => 1000))), (qm, .inr (11, [w0, .int 1000, .ref ra, .ref rb, .ref nl, .ref nh, ch_9, w7, w8, w9, w10, w11, w12, w13, w14, w15, w16, w17, w18, w19, w20, w21, w22, w23, w24, w25, w26, w27, w28, w29, w30, w31, w32, w33, w34, w35, w36, w37, w38])), (nl, .inl (cI, 48, .inl (fnl (8 * y + x).toNatClampNeg lo))), (nh, .inl (cI, 48, .inl (upd (fun _ => 1000) (((8 * y) + x)).toNatClampNeg (if hi < ((fun _ => 1000) (((8 * y) + x)).toNatClampNeg) then hi else ((fun _ => 1000) (((8 * y) + x)).toNatClampNeg)))))] := hD
        have hP := va_P_cg hP 4 (fnh (8 * y + x).toNatClampNeg hi) rfl (fun j _ => fnh_eq c6.2 _ j)
        have hD := va_D_cg hD 4 (fnh (8 * y + x).toNatClampNeg hi) rfl
        have hP : va_P (dC, dI) vwCl [(ra, .inl (cI, 48, .inl (fun _ => 0))), (rb, .inl (cI, 48, .inl (fun _ => 1000))), (qm, .inr (11, [w0, .int 1000, .ref ra, .ref rb, .ref nl, .ref nh, ch_9, w7, w8, w9, w10, w11, w12, w13, w14, w15, w16, w17, w18, w19, w20, w21, w22, w23, w24, w25, w26, w27, w28, w29, w30, w31, w32, w33, w34, w35, w36, w37, w38])), (nl, .inl (cI, 48, .inl (fnl (8 * y + x).toNatClampNeg lo))), (nh, .inl (cI, 48, .inl (fnh (8 * y + x).toNatClampNeg hi)))] H := hP
        have hD : va_D _ [(ra, .inl (cI, 48, .inl (fun _ => 0))), (rb, .inl (cI, 48, .inl (fun _ => 1000))), (qm, .inr (11, [w0, .int 1000, .ref ra, .ref rb, .ref nl, .ref nh, ch_9, w7, w8, w9, w10, w11, w12, w13, w14, w15, w16, w17, w18, w19, w20, w21, w22, w23, w24, w25, w26, w27, w28, w29, w30, w31, w32, w33, w34, w35, w36, w37, w38])), (nl, .inl (cI, 48, .inl (fnl (8 * y + x).toNatClampNeg lo))), (nh, .inl (cI, 48, .inl (fnh (8 * y + x).toNatClampNeg hi)))] := hD
        refine lv_aload_n hx hb dX11_find_56 rfl (lv_at hl 0 rfl) ?_
        refine lv_aload_n hx hb dX11_find_57 rfl (lv_at hl 0 rfl) ?_
        refine va_get (D := (dC, dI)) (ci := 11) (v := .int 1000) (C := RX11) (T := TX11) (N := 39) hx hb hts hiX11 hown hK hP 2 rfl rfl 1 (by decide) (hts (.fieldLink RX11 93 "TributePitchesModel" "far" "I") (by decide +kernel)) (fun _ h9 => h9) rfl dX11_find_58 ?_
        have hPc := hP.sub (ws' := [(qm, .inr (11, [w0, .int 1000, .ref ra, .ref rb, .ref nl, .ref nh, ch_9, w7, w8, w9, w10, w11, w12, w13, w14, w15, w16, w17, w18, w19, w20, w21, w22, w23, w24, w25, w26, w27, w28, w29, w30, w31, w32, w33, w34, w35, w36, w37, w38])), (ra, .inl (cI, 48, .inl (fun _ => 0))), (rb, .inl (cI, 48, .inl (fun _ => 1000))), (nl, .inl (cI, 48, .inl (fnl (8 * y + x).toNatClampNeg lo))), (nh, .inl (cI, 48, .inl (fnh (8 * y + x).toNatClampNeg hi)))]) [2, 0, 1, 3, 4] rfl
        have hDc := hD.sub (ws' := [(qm, .inr (11, [w0, .int 1000, .ref ra, .ref rb, .ref nl, .ref nh, ch_9, w7, w8, w9, w10, w11, w12, w13, w14, w15, w16, w17, w18, w19, w20, w21, w22, w23, w24, w25, w26, w27, w28, w29, w30, w31, w32, w33, w34, w35, w36, w37, w38])), (ra, .inl (cI, 48, .inl (fun _ => 0))), (rb, .inl (cI, 48, .inl (fun _ => 1000))), (nl, .inl (cI, 48, .inl (fnl (8 * y + x).toNatClampNeg lo))), (nh, .inl (cI, 48, .inl (fnh (8 * y + x).toNatClampNeg hi)))]) [2, 0, 1, 3, 4] (by decide) rfl
        have hKc := hK.sub (tys' := [(cI, .int)]) [0] rfl
        have hFc := va_free (wc := [(qm, .inr (11, [w0, .int 1000, .ref ra, .ref rb, .ref nl, .ref nh, ch_9, w7, w8, w9, w10, w11, w12, w13, w14, w15, w16, w17, w18, w19, w20, w21, w22, w23, w24, w25, w26, w27, w28, w29, w30, w31, w32, w33, w34, w35, w36, w37, w38])), (ra, .inl (cI, 48, .inl (fun _ => 0))), (rb, .inl (cI, 48, .inl (fun _ => 1000))), (nl, .inl (cI, 48, .inl (fnl (8 * y + x).toNatClampNeg lo))), (nh, .inl (cI, 48, .inl (fnh (8 * y + x).toNatClampNeg hi)))]) hD hS hA [2, 0, 1, 3, 4] rfl
        refine va_calli (va_runV (As := [.int 1000]) (rest := []) ⟨hx, hb, hml, hown, hts⟩ (c_X11_narrowed l dC dI cI _ qm w0 (.int 1000) ch_9 w7 w8 w9 w10 w11 w12 w13 w14 w15 w16 w17 w18 w19 w20 w21 w22 w23 w24 w25 w26 w27 w28 w29 w30 w31 w32 w33 w34 w35 w36 w37 w38 nl nh ra rb 1000 (fun _ => 0) (fun _ => 1000) (fnl (8 * y + x).toNatClampNeg lo) (fnh (8 * y + x).toNatClampNeg hi) (fn_na c4 ⟨Int32.le_trans c4.1 c6.1, c6.2⟩) (fn_ok c4 ⟨Int32.le_trans c4.1 c6.1, c6.2⟩ c6.1)) (cwV 1 hts gX11_find_X11_narrowed rfl rfl rfl (by decide +kernel) ⟨Nat.le_of_ble_eq_true rfl, Nat.le_of_ble_eq_true rfl⟩) (pw_preV (va_recv hKc hPc (ci := 11) (q0 := 0) rfl rfl) hPc hKc hDc hN) rfl rfl hl.1 rfl (lv_room (Nat.le_of_ble_eq_true rfl)) dX11_find_61 ⟨Nat.le_of_ble_eq_true rfl, Nat.le_of_ble_eq_true rfl⟩) hS (fun q _ h => hFc q h) hFc (fun r10 u t H1 locs ht hvm hw hB hz1 hk1 hS => ?_)
        have hr10 : r10 = nI (fa_cnt (chg (fun _ => 0) (fun _ => 1000) (fnl (8 * y + x).toNatClampNeg lo) (fnh (8 * y + x).toNatClampNeg hi)) 48) := hw
        have hP1 : va_P (dC, dI) vwCl [] H1 := fun k q h => by simp at h
        have hD1 : va_D (va_A [(qm, .inr (11, [w0, .int 1000, .ref ra, .ref rb, .ref nl, .ref nh, ch_9, w7, w8, w9, w10, w11, w12, w13, w14, w15, w16, w17, w18, w19, w20, w21, w22, w23, w24, w25, w26, w27, w28, w29, w30, w31, w32, w33, w34, w35, w36, w37, w38])), (ra, .inl (cI, 48, .inl (fun _ => 0))), (rb, .inl (cI, 48, .inl (fun _ => 1000))), (nl, .inl (cI, 48, .inl (fnl (8 * y + x).toNatClampNeg lo))), (nh, .inl (cI, 48, .inl (fnh (8 * y + x).toNatClampNeg hi)))] H.size) ([] : va_W) := ⟨fun i j p q h => by simp at h, fun k q h => by simp at h⟩
        obtain ⟨hP, hD⟩ := va_join (wr := []) (w1 := []) hP hD [2, 0, 1, 3, 4] [] rfl rfl (by decide) (by decide) hk1 hFc hP1 hD1
        generalize H1 = H at hP hS ⊢
        have hP : va_P (dC, dI) vwCl [] H := hP
        have hD : va_D _ [] := hD
        exact W.iret (v := r10) hx hb hr (fun t ht hW => ⟨⟨r10, (), rfl, (by rw [sp_find, if_pos c2, if_pos c4, if_pos ⟨Int32.le_trans c4.1 c6.1, c6.2⟩, if_pos c6.1]; exact hr10), trivial⟩, hS.F ht⟩) hS.2.2 dX11_find_64
      · skip
        have c6 := (fa_bool_prop hr5).1.mp c6
        refine lv_bipush (v := (-2)) hx hb dX11_find_36 (by decide) ?_
        exact W.iret (v := (-2)) hx hb hr (fun t ht hW => ⟨⟨(-2), (), rfl, (by rw [sp_find, if_pos c2, if_pos c4]; exact (fnd_no c6).symm), trivial⟩, hS.F ht⟩) hS.2.2 dX11_find_38
  · skip
    have c2 := (fa_bool_prop hr1).1.mp c2
    refine lv_iconst (v := (-1)) hx hb dX11_find_8 (by decide) ?_
    exact W.iret (v := (-1)) hx hb hr (fun t ht hW => ⟨⟨(-1), (), rfl, (by rw [sp_find, if_neg c2]), trivial⟩, hS.F ht⟩) hS.2.2 dX11_find_9
set_option maxHeartbeats 4000000 in
set_option maxRecDepth 100000 in
theorem c_X11_rise (l : Launch) (dC : Nat → ClassId) (dI : Nat → Nat → Nat) (cI : ClassId) (sz : Nat) (qm : Nat) (w0 : Value) (w6 : Value) (w7 : Value) (w8 : Value) (w9 : Value) (w10 : Value) (w11 : Value) (w12 : Value) (w13 : Value) (w14 : Value) (w15 : Value) (w16 : Value) (w17 : Value) (w18 : Value) (w19 : Value) (w20 : Value) (w21 : Value) (w22 : Value) (w23 : Value) (w24 : Value) (w25 : Value) (w26 : Value) (w27 : Value) (w28 : Value) (w29 : Value) (w30 : Value) (w31 : Value) (w32 : Value) (w33 : Value) (w34 : Value) (w35 : Value) (w36 : Value) (w37 : Value) (w38 : Value) (ra : Nat) (rb : Nat) (nl : Nat) (nh : Nat) (dd : Int32) (gl : Nat → Int32) (gh : Nat → Int32)  : Met l yX11_rise wsX11_rise ({ frames := 4, cells := 0, slots := 0, locals := 130 }) (pw (dC, dI) [(cI, .int)] [(qm, .inr (11, [w0, .int 1000, .ref ra, .ref rb, .ref nl, .ref nh, w6, w7, w8, w9, w10, w11, w12, w13, w14, w15, w16, w17, w18, w19, w20, w21, w22, w23, w24, w25, w26, w27, w28, w29, w30, w31, w32, w33, w34, w35, w36, w37, w38])), (ra, .inl (cI, 48, .inl (fun _ => 0))), (rb, .inl (cI, 48, .inl (fun _ => 1000))), (nl, .inl (cI, 48, .inl gl)), (nh, .inl (cI, 48, .inl gh))] sz [.ref qm, .int dd]) (va_Qi (fun r (_ : Unit) => r = sp_rise dd) (fun _ _ => True) (va_A [(qm, .inr (11, [w0, .int 1000, .ref ra, .ref rb, .ref nl, .ref nh, w6, w7, w8, w9, w10, w11, w12, w13, w14, w15, w16, w17, w18, w19, w20, w21, w22, w23, w24, w25, w26, w27, w28, w29, w30, w31, w32, w33, w34, w35, w36, w37, w38])), (ra, .inl (cI, 48, .inl (fun _ => 0))), (rb, .inl (cI, 48, .inl (fun _ => 1000))), (nl, .inl (cI, 48, .inl gl)), (nh, .inl (cI, 48, .inl gh))] sz)) 0 0 (va_A [(qm, .inr (11, [w0, .int 1000, .ref ra, .ref rb, .ref nl, .ref nh, w6, w7, w8, w9, w10, w11, w12, w13, w14, w15, w16, w17, w18, w19, w20, w21, w22, w23, w24, w25, w26, w27, w28, w29, w30, w31, w32, w33, w34, w35, w36, w37, w38])), (ra, .inl (cI, 48, .inl (fun _ => 0))), (rb, .inl (cI, 48, .inl (fun _ => 1000))), (nl, .inl (cI, 48, .inl gl)), (nh, .inl (cI, 48, .inl gh))] sz) := by
  refine pw_met (cc := cX11_rise) (maxL := 2) (ret := (some .int)) (by decide) rfl (Nat.le_of_ble_eq_true rfl) ?_
  intro p e s m below meth c0 hx hb hr hml hown hlocks hnm hts hP hK hD hN hsz hA hS ls hl
  subst hsz
  have hl : lv_has ls 2 [(0, .ref qm), (1, .int dd)] := hl
  have hiX11 : ∀ w ∈ wsX110, w ∈ wsX11_rise := by decide +kernel
  refine lv_iload_n hx hb dX11_rise_0 rfl (lv_at hl 1 rfl) ?_
  refine lv_i2l (v := dd.toInt64) hx hb dX11_rise_1 rfl ?_
  refine lv_lconst (v := 0) hx hb dX11_rise_2 (by decide) ?_
  refine lv_ldc2 (v := 1000) hx hb hown (hts (.constantLong RX11 133 (1000)) (by decide +kernel)) dX11_rise_3 ?_
  refine vp_callSi (va_Run.run (va_runS (As := [.long dd.toInt64, .long 0, .long 1000]) (rest := []) ⟨hx, hb, hml, hown, hts⟩ (c_X11_in l dd.toInt64 0 1000 ) (va_cwS 3 hts gX11_rise_X11_in rfl rfl rfl (by decide +kernel) ⟨Nat.le_of_ble_eq_true rfl, Nat.le_of_ble_eq_true rfl⟩) (p0_preS hN) rfl rfl hl.1 rfl (lv_room (Nat.le_of_ble_eq_true rfl)) dX11_rise_6 ⟨Nat.le_of_ble_eq_true rfl, Nat.le_of_ble_eq_true rfl⟩)) (fun r1 hr1 => ?_)
  have hr1 : r1 = if 0 ≤ dd.toInt64 ∧ dd.toInt64 ≤ 1000 then 1 else 0 := hr1
  have hr1 := hr1.trans (in_w _ 0 1000 (by decide) (by decide))
  refine lv_if_ne (tgt := 15) hx hb dX11_rise_9 (by decide) (fun c2 => ?_) (fun c2 => ?_)
  · skip
    have c2 := (fa_bool_prop hr1).2.mp c2
    refine lv_iload_n hx hb dX11_rise_15 rfl (lv_at hl 1 rfl) ?_
    refine lv_aload_n hx hb dX11_rise_16 rfl (lv_at hl 0 rfl) ?_
    refine va_get (D := (dC, dI)) (ci := 11) (v := .int 1000) (C := RX11) (T := TX11) (N := 39) hx hb hts hiX11 hown hK hP 0 rfl rfl 1 (by decide) (hts (.fieldLink RX11 93 "TributePitchesModel" "far" "I") (by decide +kernel)) (fun _ h9 => h9) rfl dX11_rise_17 ?_
    refine lv_icmp_le (tgt := 26) hx hb dX11_rise_20 (by decide) (fun c3 => ?_) (fun c3 => ?_)
    · skip
      refine lv_aload_n hx hb dX11_rise_26 rfl (lv_at hl 0 rfl) ?_
      have hPc := hP.sub (ws' := [(qm, .inr (11, [w0, .int 1000, .ref ra, .ref rb, .ref nl, .ref nh, w6, w7, w8, w9, w10, w11, w12, w13, w14, w15, w16, w17, w18, w19, w20, w21, w22, w23, w24, w25, w26, w27, w28, w29, w30, w31, w32, w33, w34, w35, w36, w37, w38])), (ra, .inl (cI, 48, .inl (fun _ => 0))), (rb, .inl (cI, 48, .inl (fun _ => 1000))), (nl, .inl (cI, 48, .inl gl)), (nh, .inl (cI, 48, .inl gh))]) [0, 1, 2, 3, 4] rfl
      have hDc := hD.sub (ws' := [(qm, .inr (11, [w0, .int 1000, .ref ra, .ref rb, .ref nl, .ref nh, w6, w7, w8, w9, w10, w11, w12, w13, w14, w15, w16, w17, w18, w19, w20, w21, w22, w23, w24, w25, w26, w27, w28, w29, w30, w31, w32, w33, w34, w35, w36, w37, w38])), (ra, .inl (cI, 48, .inl (fun _ => 0))), (rb, .inl (cI, 48, .inl (fun _ => 1000))), (nl, .inl (cI, 48, .inl gl)), (nh, .inl (cI, 48, .inl gh))]) [0, 1, 2, 3, 4] (by decide) rfl
      have hKc := hK.sub (tys' := [(cI, .int)]) [0] rfl
      have hFc := va_free (wc := [(qm, .inr (11, [w0, .int 1000, .ref ra, .ref rb, .ref nl, .ref nh, w6, w7, w8, w9, w10, w11, w12, w13, w14, w15, w16, w17, w18, w19, w20, w21, w22, w23, w24, w25, w26, w27, w28, w29, w30, w31, w32, w33, w34, w35, w36, w37, w38])), (ra, .inl (cI, 48, .inl (fun _ => 0))), (rb, .inl (cI, 48, .inl (fun _ => 1000))), (nl, .inl (cI, 48, .inl gl)), (nh, .inl (cI, 48, .inl gh))]) hD hS hA [0, 1, 2, 3, 4] rfl
      refine va_callv (va_runV (As := []) (rest := []) ⟨hx, hb, hml, hown, hts⟩ (c_X11_layNew l dC dI cI _ qm w0 (.int 1000) w6 w7 w8 w9 w10 w11 w12 w13 w14 w15 w16 w17 w18 w19 w20 w21 w22 w23 w24 w25 w26 w27 w28 w29 w30 w31 w32 w33 w34 w35 w36 w37 w38 nl nh ra rb (fun _ => 0) (fun _ => 1000) gl gh ) (cwV 0 hts gX11_rise_X11_layNew rfl rfl rfl (by decide +kernel) ⟨Nat.le_of_ble_eq_true rfl, Nat.le_of_ble_eq_true rfl⟩) (pw_preV (va_recv hKc hPc (ci := 11) (q0 := 0) rfl rfl) hPc hKc hDc hN) rfl rfl hl.1 rfl (lv_room (Nat.le_of_ble_eq_true rfl)) dX11_rise_27 ⟨Nat.le_of_ble_eq_true rfl, Nat.le_of_ble_eq_true rfl⟩) hS (fun q _ h => hFc q h) hFc (fun u t H1 locs ht hvm hw hB hz1 hk1 hS => ?_)
      obtain ⟨hP1, hK1, hD1⟩ := hB
      rw [ht] at hP1
      obtain ⟨hP, hD⟩ := va_join (wr := []) (w1 := [(qm, .inr (11, [w0, .int 1000, .ref ra, .ref rb, .ref nl, .ref nh, w6, w7, w8, w9, w10, w11, w12, w13, w14, w15, w16, w17, w18, w19, w20, w21, w22, w23, w24, w25, w26, w27, w28, w29, w30, w31, w32, w33, w34, w35, w36, w37, w38])), (ra, .inl (cI, 48, .inl (fun _ => 0))), (rb, .inl (cI, 48, .inl (fun _ => 1000))), (nl, .inl (cI, 48, .inl (fun _ => 0))), (nh, .inl (cI, 48, .inl (fun _ => 1000)))]) hP hD [0, 1, 2, 3, 4] [] rfl rfl (by decide) (by decide) hk1 hFc hP1 hD1
      generalize H1 = H at hP hS ⊢
      have hP : va_P (dC, dI) vwCl [(qm, .inr (11, [w0, .int 1000, .ref ra, .ref rb, .ref nl, .ref nh, w6, w7, w8, w9, w10, w11, w12, w13, w14, w15, w16, w17, w18, w19, w20, w21, w22, w23, w24, w25, w26, w27, w28, w29, w30, w31, w32, w33, w34, w35, w36, w37, w38])), (ra, .inl (cI, 48, .inl (fun _ => 0))), (rb, .inl (cI, 48, .inl (fun _ => 1000))), (nl, .inl (cI, 48, .inl (fun _ => 0))), (nh, .inl (cI, 48, .inl (fun _ => 1000)))] H := hP
      have hD : va_D _ [(qm, .inr (11, [w0, .int 1000, .ref ra, .ref rb, .ref nl, .ref nh, w6, w7, w8, w9, w10, w11, w12, w13, w14, w15, w16, w17, w18, w19, w20, w21, w22, w23, w24, w25, w26, w27, w28, w29, w30, w31, w32, w33, w34, w35, w36, w37, w38])), (ra, .inl (cI, 48, .inl (fun _ => 0))), (rb, .inl (cI, 48, .inl (fun _ => 1000))), (nl, .inl (cI, 48, .inl (fun _ => 0))), (nh, .inl (cI, 48, .inl (fun _ => 1000)))] := hD
      refine lv_aload_n hx hb dX11_rise_30 rfl (lv_at hl 0 rfl) ?_
      refine lv_iload_n hx hb dX11_rise_31 rfl (lv_at hl 1 rfl) ?_
      have hPc := hP.sub (ws' := [(qm, .inr (11, [w0, .int 1000, .ref ra, .ref rb, .ref nl, .ref nh, w6, w7, w8, w9, w10, w11, w12, w13, w14, w15, w16, w17, w18, w19, w20, w21, w22, w23, w24, w25, w26, w27, w28, w29, w30, w31, w32, w33, w34, w35, w36, w37, w38])), (ra, .inl (cI, 48, .inl (fun _ => 0))), (rb, .inl (cI, 48, .inl (fun _ => 1000))), (nl, .inl (cI, 48, .inl (fun _ => 0))), (nh, .inl (cI, 48, .inl (fun _ => 1000)))]) [0, 1, 2, 3, 4] rfl
      have hDc := hD.sub (ws' := [(qm, .inr (11, [w0, .int 1000, .ref ra, .ref rb, .ref nl, .ref nh, w6, w7, w8, w9, w10, w11, w12, w13, w14, w15, w16, w17, w18, w19, w20, w21, w22, w23, w24, w25, w26, w27, w28, w29, w30, w31, w32, w33, w34, w35, w36, w37, w38])), (ra, .inl (cI, 48, .inl (fun _ => 0))), (rb, .inl (cI, 48, .inl (fun _ => 1000))), (nl, .inl (cI, 48, .inl (fun _ => 0))), (nh, .inl (cI, 48, .inl (fun _ => 1000)))]) [0, 1, 2, 3, 4] (by decide) rfl
      have hKc := hK.sub (tys' := [(cI, .int)]) [0] rfl
      have hFc := va_free (wc := [(qm, .inr (11, [w0, .int 1000, .ref ra, .ref rb, .ref nl, .ref nh, w6, w7, w8, w9, w10, w11, w12, w13, w14, w15, w16, w17, w18, w19, w20, w21, w22, w23, w24, w25, w26, w27, w28, w29, w30, w31, w32, w33, w34, w35, w36, w37, w38])), (ra, .inl (cI, 48, .inl (fun _ => 0))), (rb, .inl (cI, 48, .inl (fun _ => 1000))), (nl, .inl (cI, 48, .inl (fun _ => 0))), (nh, .inl (cI, 48, .inl (fun _ => 1000)))]) hD hS hA [0, 1, 2, 3, 4] rfl
      refine va_calli (va_runV (As := [.int dd]) (rest := []) ⟨hx, hb, hml, hown, hts⟩ (c_X11_narrowed l dC dI cI _ qm w0 (.int 1000) w6 w7 w8 w9 w10 w11 w12 w13 w14 w15 w16 w17 w18 w19 w20 w21 w22 w23 w24 w25 w26 w27 w28 w29 w30 w31 w32 w33 w34 w35 w36 w37 w38 nl nh ra rb dd (fun _ => 0) (fun _ => 1000) (fun _ => 0) (fun _ => 1000) (rs_na c2) rs_ok) (cwV 1 hts gX11_rise_X11_narrowed rfl rfl rfl (by decide +kernel) ⟨Nat.le_of_ble_eq_true rfl, Nat.le_of_ble_eq_true rfl⟩) (pw_preV (va_recv hKc hPc (ci := 11) (q0 := 0) rfl rfl) hPc hKc hDc hN) rfl rfl hl.1 rfl (lv_room (Nat.le_of_ble_eq_true rfl)) dX11_rise_32 ⟨Nat.le_of_ble_eq_true rfl, Nat.le_of_ble_eq_true rfl⟩) hS (fun q _ h => hFc q h) hFc (fun r5 u t H1 locs ht hvm hw hB hz1 hk1 hS => ?_)
      have hr5 : r5 = nI (fa_cnt (chg (fun _ => 0) (fun _ => 1000) (fun _ => 0) (fun _ => 1000)) 48) := hw
      have hP1 : va_P (dC, dI) vwCl [] H1 := fun k q h => by simp at h
      have hD1 : va_D (va_A [(qm, .inr (11, [w0, .int 1000, .ref ra, .ref rb, .ref nl, .ref nh, w6, w7, w8, w9, w10, w11, w12, w13, w14, w15, w16, w17, w18, w19, w20, w21, w22, w23, w24, w25, w26, w27, w28, w29, w30, w31, w32, w33, w34, w35, w36, w37, w38])), (ra, .inl (cI, 48, .inl (fun _ => 0))), (rb, .inl (cI, 48, .inl (fun _ => 1000))), (nl, .inl (cI, 48, .inl (fun _ => 0))), (nh, .inl (cI, 48, .inl (fun _ => 1000)))] H.size) ([] : va_W) := ⟨fun i j p q h => by simp at h, fun k q h => by simp at h⟩
      obtain ⟨hP, hD⟩ := va_join (wr := []) (w1 := []) hP hD [0, 1, 2, 3, 4] [] rfl rfl (by decide) (by decide) hk1 hFc hP1 hD1
      generalize H1 = H at hP hS ⊢
      have hP : va_P (dC, dI) vwCl [] H := hP
      have hD : va_D _ [] := hD
      exact W.iret (v := r5) hx hb hr (fun t ht hW => ⟨⟨r5, (), rfl, (by rw [sp_rise, if_pos c2]; exact hr5), trivial⟩, hS.F ht⟩) hS.2.2 dX11_rise_35
    · exact absurd c3 (not_not_intro c2.2)
  · skip
    have c2 := (fa_bool_prop hr1).1.mp c2
    refine lv_bipush (v := (-2)) hx hb dX11_rise_12 (by decide) ?_
    exact W.iret (v := (-2)) hx hb hr (fun t ht hW => ⟨⟨(-2), (), rfl, (by rw [sp_rise, if_neg c2]), trivial⟩, hS.F ht⟩) hS.2.2 dX11_rise_14
set_option maxHeartbeats 4000000 in
set_option maxRecDepth 100000 in
theorem c_X11_pitch (l : Launch) (dC : Nat → ClassId) (dI : Nat → Nat → Nat) (cI : ClassId) (sz : Nat) (qm : Nat) (w0 : Value) (w1 : Value) (w2 : Value) (w3 : Value) (w4 : Value) (w5 : Value) (w6 : Value) (w7 : Value) (w8 : Value) (w9 : Value) (w10 : Value) (w17 : Value) (w18 : Value) (w19 : Value) (w20 : Value) (w21 : Value) (w22 : Value) (w23 : Value) (w24 : Value) (w25 : Value) (w26 : Value) (w27 : Value) (w28 : Value) (w29 : Value) (w30 : Value) (w31 : Value) (w32 : Value) (w33 : Value) (w34 : Value) (w35 : Value) (w36 : Value) (w37 : Value) (w38 : Value) (p0 : Nat) (p1 : Nat) (p2 : Nat) (p3 : Nat) (p4 : Nat) (x : Int32) (y : Int32) (xx : Int32) (yy : Int32) (tn : Int32) (f0 : Nat → Int32) (f1 : Nat → Int32) (f2 : Nat → Int32) (f3 : Nat → Int32) (f4 : Nat → Int32)  : Met l yX11_pitch wsX11_pitch ({ frames := 2, cells := 0, slots := 0, locals := 60 }) (pw (dC, dI) [(cI, .int)] [(qm, .inr (11, [w0, w1, w2, w3, w4, w5, w6, w7, w8, w9, w10, .int 0, .ref p0, .ref p1, .ref p2, .ref p3, .ref p4, w17, w18, w19, w20, w21, w22, w23, w24, w25, w26, w27, w28, w29, w30, w31, w32, w33, w34, w35, w36, w37, w38])), (p0, .inl (cI, 12, .inl f0)), (p1, .inl (cI, 12, .inl f1)), (p2, .inl (cI, 12, .inl f2)), (p3, .inl (cI, 12, .inl f3)), (p4, .inl (cI, 12, .inl f4))] sz [.ref qm, .int x, .int y, .int xx, .int yy, .int tn]) (va_Qi (fun r (_ : Unit) => r = sp_pitch x y xx yy tn) (fun _ _ => True) (va_A [(qm, .inr (11, [w0, w1, w2, w3, w4, w5, w6, w7, w8, w9, w10, .int 0, .ref p0, .ref p1, .ref p2, .ref p3, .ref p4, w17, w18, w19, w20, w21, w22, w23, w24, w25, w26, w27, w28, w29, w30, w31, w32, w33, w34, w35, w36, w37, w38])), (p0, .inl (cI, 12, .inl f0)), (p1, .inl (cI, 12, .inl f1)), (p2, .inl (cI, 12, .inl f2)), (p3, .inl (cI, 12, .inl f3)), (p4, .inl (cI, 12, .inl f4))] sz)) 0 0 (va_A [(qm, .inr (11, [w0, w1, w2, w3, w4, w5, w6, w7, w8, w9, w10, .int 0, .ref p0, .ref p1, .ref p2, .ref p3, .ref p4, w17, w18, w19, w20, w21, w22, w23, w24, w25, w26, w27, w28, w29, w30, w31, w32, w33, w34, w35, w36, w37, w38])), (p0, .inl (cI, 12, .inl f0)), (p1, .inl (cI, 12, .inl f1)), (p2, .inl (cI, 12, .inl f2)), (p3, .inl (cI, 12, .inl f3)), (p4, .inl (cI, 12, .inl f4))] sz) := by
  refine pw_met (cc := cX11_pitch) (maxL := 7) (ret := (some .int)) (by decide) rfl (Nat.le_of_ble_eq_true rfl) ?_
  intro p e s m below meth c0 hx hb hr hml hown hlocks hnm hts hP hK hD hN hsz hA hS ls hl
  subst hsz
  have hl : lv_has ls 7 [(0, .ref qm), (1, .int x), (2, .int y), (3, .int xx), (4, .int yy), (5, .int tn)] := hl
  have hiX11 : ∀ w ∈ wsX110, w ∈ wsX11_pitch := by decide +kernel
  refine lv_iload_n hx hb dX11_pitch_0 rfl (lv_at hl 1 rfl) ?_
  refine lv_iload_n hx hb dX11_pitch_1 rfl (lv_at hl 2 rfl) ?_
  refine vp_callSi (va_Run.run (va_runS (As := [.int x, .int y]) (rest := []) ⟨hx, hb, hml, hown, hts⟩ (c_X11_isSquare l x y ) (va_cwS 2 hts gX11_pitch_X11_isSquare rfl rfl rfl (by decide +kernel) ⟨Nat.le_of_ble_eq_true rfl, Nat.le_of_ble_eq_true rfl⟩) (p0_preS hN) rfl rfl hl.1 rfl (lv_room (Nat.le_of_ble_eq_true rfl)) dX11_pitch_2 ⟨Nat.le_of_ble_eq_true rfl, Nat.le_of_ble_eq_true rfl⟩)) (fun r1 hr1 => ?_)
  have hr1 : r1 = if (0 ≤ x ∧ x ≤ 7) ∧ (0 ≤ y ∧ y ≤ 5) then 1 else 0 := hr1
  refine lv_if_eq (tgt := 17) hx hb dX11_pitch_5 (by decide) (fun c2 => ?_) (fun c2 => ?_)
  · skip
    have c2 := (fa_bool_prop hr1).1.mp c2
    refine lv_iconst (v := (-1)) hx hb dX11_pitch_17 (by decide) ?_
    exact W.iret (v := (-1)) hx hb hr (fun t ht hW => ⟨⟨(-1), (), rfl, (by simp [sp_pitch, c2]), trivial⟩, hS.F ht⟩) hS.2.2 dX11_pitch_18
  · skip
    have c2 := (fa_bool_prop hr1).2.mp c2
    refine lv_iload_n hx hb dX11_pitch_8 rfl (lv_at hl 3 rfl) ?_
    refine lv_iload hx hb dX11_pitch_9 (lv_at hl 4 rfl) ?_
    refine vp_callSi (va_Run.run (va_runS (As := [.int xx, .int yy]) (rest := []) ⟨hx, hb, hml, hown, hts⟩ (c_X11_isSquare l xx yy ) (va_cwS 2 hts gX11_pitch_X11_isSquare rfl rfl rfl (by decide +kernel) ⟨Nat.le_of_ble_eq_true rfl, Nat.le_of_ble_eq_true rfl⟩) (p0_preS hN) rfl rfl hl.1 rfl (lv_room (Nat.le_of_ble_eq_true rfl)) dX11_pitch_11 ⟨Nat.le_of_ble_eq_true rfl, Nat.le_of_ble_eq_true rfl⟩)) (fun r3 hr3 => ?_)
    have hr3 : r3 = if (0 ≤ xx ∧ xx ≤ 7) ∧ (0 ≤ yy ∧ yy ≤ 5) then 1 else 0 := hr3
    refine lv_if_ne (tgt := 19) hx hb dX11_pitch_14 (by decide) (fun c4 => ?_) (fun c4 => ?_)
    · skip
      have c4 := (fa_bool_prop hr3).2.mp c4
      refine lv_iload_n hx hb dX11_pitch_19 rfl (lv_at hl 1 rfl) ?_
      refine lv_iload_n hx hb dX11_pitch_20 rfl (lv_at hl 3 rfl) ?_
      refine lv_icmp_gt (tgt := 43) hx hb dX11_pitch_21 (by decide) (fun c5 => ?_) (fun c5 => ?_)
      · skip
        refine lv_bipush (v := (-2)) hx hb dX11_pitch_43 (by decide) ?_
        exact W.iret (v := (-2)) hx hb hr (fun t ht hW => ⟨⟨(-2), (), rfl, (by simp [sp_pitch, c2, c4, c5]), trivial⟩, hS.F ht⟩) hS.2.2 dX11_pitch_45
      · skip
        refine lv_iload_n hx hb dX11_pitch_24 rfl (lv_at hl 2 rfl) ?_
        refine lv_iload hx hb dX11_pitch_25 (lv_at hl 4 rfl) ?_
        refine lv_icmp_gt (tgt := 43) hx hb dX11_pitch_27 (by decide) (fun c6 => ?_) (fun c6 => ?_)
        · skip
          refine lv_bipush (v := (-2)) hx hb dX11_pitch_43 (by decide) ?_
          exact W.iret (v := (-2)) hx hb hr (fun t ht hW => ⟨⟨(-2), (), rfl, (by simp [sp_pitch, c2, c4, c5, c6]), trivial⟩, hS.F ht⟩) hS.2.2 dX11_pitch_45
        · skip
          refine lv_iload hx hb dX11_pitch_30 (lv_at hl 5 rfl) ?_
          refine lv_i2l (v := tn.toInt64) hx hb dX11_pitch_32 rfl ?_
          refine lv_lconst (v := 1) hx hb dX11_pitch_33 (by decide) ?_
          refine lv_ldc2 (v := 100) hx hb hown (hts (.constantLong RX11 173 (100)) (by decide +kernel)) dX11_pitch_34 ?_
          refine vp_callSi (va_Run.run (va_runS (As := [.long tn.toInt64, .long 1, .long 100]) (rest := []) ⟨hx, hb, hml, hown, hts⟩ (c_X11_in l tn.toInt64 1 100 ) (va_cwS 3 hts gX11_pitch_X11_in rfl rfl rfl (by decide +kernel) ⟨Nat.le_of_ble_eq_true rfl, Nat.le_of_ble_eq_true rfl⟩) (p0_preS hN) rfl rfl hl.1 rfl (lv_room (Nat.le_of_ble_eq_true rfl)) dX11_pitch_37 ⟨Nat.le_of_ble_eq_true rfl, Nat.le_of_ble_eq_true rfl⟩)) (fun r7 hr7 => ?_)
          have hr7 : r7 = if 1 ≤ tn.toInt64 ∧ tn.toInt64 ≤ 100 then 1 else 0 := hr7
          have hr7 := hr7.trans (in_w _ 1 100 (by decide) (by decide))
          refine lv_if_ne (tgt := 46) hx hb dX11_pitch_40 (by decide) (fun c8 => ?_) (fun c8 => ?_)
          · skip
            have c8 := (fa_bool_prop hr7).2.mp c8
            refine lv_iconst (v := 0) hx hb dX11_pitch_46 (by decide) ?_
            refine lv_istore (lv' := [(6, .int 0), (0, .ref qm), (1, .int x), (2, .int y), (3, .int xx), (4, .int yy), (5, .int tn)]) hx hb dX11_pitch_47 hl (by decide) rfl (fun ls hl => ?_)
            refine lv_iload hx hb dX11_pitch_49 (lv_at hl 0 rfl) ?_
            refine lv_aload_n hx hb dX11_pitch_51 rfl (lv_at hl 1 rfl) ?_
            refine va_get (D := (dC, dI)) (ci := 11) (v := .int 0) (C := RX11) (T := TX11) (N := 39) hx hb hts hiX11 hown hK hP 0 rfl rfl 11 (by decide) (hts (.fieldLink RX11 170 "TributePitchesModel" "pitches" "I") (by decide +kernel)) (fun _ h9 => h9) rfl dX11_pitch_52 ?_
            refine lv_icmp_ge (tgt := 112) hx hb dX11_pitch_55 (by decide) (fun c9 => ?_) (fun c9 => ?_)
            · skip
              refine lv_aload_n hx hb dX11_pitch_112 rfl (lv_at hl 1 rfl) ?_
              refine va_get (D := (dC, dI)) (ci := 11) (v := .int 0) (C := RX11) (T := TX11) (N := 39) hx hb hts hiX11 hown hK hP 0 rfl rfl 11 (by decide) (hts (.fieldLink RX11 170 "TributePitchesModel" "pitches" "I") (by decide +kernel)) (fun _ h9 => h9) rfl dX11_pitch_113 ?_
              refine lv_bipush (v := 12) hx hb dX11_pitch_116 (by decide) ?_
              refine lv_icmp_ne (tgt := 124) hx hb dX11_pitch_118 (by decide) (fun c10 => ?_) (fun c10 => ?_)
              · skip
                refine lv_aload_n hx hb dX11_pitch_124 rfl (lv_at hl 1 rfl) ?_
                refine va_get (D := (dC, dI)) (ci := 11) (v := .ref p0) (C := RX11) (T := TX11) (N := 39) hx hb hts hiX11 hown hK hP 0 rfl rfl 12 (by decide) (hts (.fieldLink RX11 34 "TributePitchesModel" "fromX" "[I") (by decide +kernel)) (fun _ h9 => h9) rfl dX11_pitch_125 ?_
                refine lv_aload_n hx hb dX11_pitch_128 rfl (lv_at hl 1 rfl) ?_
                refine va_get (D := (dC, dI)) (ci := 11) (v := .int 0) (C := RX11) (T := TX11) (N := 39) hx hb hts hiX11 hown hK hP 0 rfl rfl 11 (by decide) (hts (.fieldLink RX11 170 "TributePitchesModel" "pitches" "I") (by decide +kernel)) (fun _ h9 => h9) rfl dX11_pitch_129 ?_
                refine lv_iload_n hx hb dX11_pitch_132 rfl (lv_at hl 2 rfl) ?_
                refine va_iast hx hb hK hP hD hS 1 0 rfl rfl (by unfold vp_in; decide) dX11_pitch_133 (fun H locs hP hD hS => ?_)
                have hP : va_P (dC, dI) vwCl [(qm, .inr (11, [w0, w1, w2, w3, w4, w5, w6, w7, w8, w9, w10, .int 0, .ref p0, .ref p1, .ref p2, .ref p3, .ref p4, w17, w18, w19, w20, w21, w22, w23, w24, w25, w26, w27, w28, w29, w30, w31, w32, w33, w34, w35, w36, w37, w38])), (p0, .inl (cI, 12, .inl (upd f0 (0 : Int32).toNatClampNeg x))), (p1, .inl (cI, 12, .inl f1)), (p2, .inl (cI, 12, .inl f2)), (p3, .inl (cI, 12, .inl f3)), (p4, .inl (cI, 12, .inl f4))] H := hP
                have hD : va_D _ [(qm, .inr (11, [w0, w1, w2, w3, w4, w5, w6, w7, w8, w9, w10, .int 0, .ref p0, .ref p1, .ref p2, .ref p3, .ref p4, w17, w18, w19, w20, w21, w22, w23, w24, w25, w26, w27, w28, w29, w30, w31, w32, w33, w34, w35, w36, w37, w38])), (p0, .inl (cI, 12, .inl (upd f0 (0 : Int32).toNatClampNeg x))), (p1, .inl (cI, 12, .inl f1)), (p2, .inl (cI, 12, .inl f2)), (p3, .inl (cI, 12, .inl f3)), (p4, .inl (cI, 12, .inl f4))] := hD
                refine lv_aload_n hx hb dX11_pitch_134 rfl (lv_at hl 1 rfl) ?_
                refine va_get (D := (dC, dI)) (ci := 11) (v := .ref p1) (C := RX11) (T := TX11) (N := 39) hx hb hts hiX11 hown hK hP 0 rfl rfl 13 (by decide) (hts (.fieldLink RX11 37 "TributePitchesModel" "fromY" "[I") (by decide +kernel)) (fun _ h9 => h9) rfl dX11_pitch_135 ?_
                refine lv_aload_n hx hb dX11_pitch_138 rfl (lv_at hl 1 rfl) ?_
                refine va_get (D := (dC, dI)) (ci := 11) (v := .int 0) (C := RX11) (T := TX11) (N := 39) hx hb hts hiX11 hown hK hP 0 rfl rfl 11 (by decide) (hts (.fieldLink RX11 170 "TributePitchesModel" "pitches" "I") (by decide +kernel)) (fun _ h9 => h9) rfl dX11_pitch_139 ?_
                refine lv_iload_n hx hb dX11_pitch_142 rfl (lv_at hl 3 rfl) ?_
                refine va_iast hx hb hK hP hD hS 2 0 rfl rfl (by unfold vp_in; decide) dX11_pitch_143 (fun H locs hP hD hS => ?_)
                have hP : va_P (dC, dI) vwCl [(qm, .inr (11, [w0, w1, w2, w3, w4, w5, w6, w7, w8, w9, w10, .int 0, .ref p0, .ref p1, .ref p2, .ref p3, .ref p4, w17, w18, w19, w20, w21, w22, w23, w24, w25, w26, w27, w28, w29, w30, w31, w32, w33, w34, w35, w36, w37, w38])), (p0, .inl (cI, 12, .inl (upd f0 (0 : Int32).toNatClampNeg x))), (p1, .inl (cI, 12, .inl (upd f1 (0 : Int32).toNatClampNeg y))), (p2, .inl (cI, 12, .inl f2)), (p3, .inl (cI, 12, .inl f3)), (p4, .inl (cI, 12, .inl f4))] H := hP
                have hD : va_D _ [(qm, .inr (11, [w0, w1, w2, w3, w4, w5, w6, w7, w8, w9, w10, .int 0, .ref p0, .ref p1, .ref p2, .ref p3, .ref p4, w17, w18, w19, w20, w21, w22, w23, w24, w25, w26, w27, w28, w29, w30, w31, w32, w33, w34, w35, w36, w37, w38])), (p0, .inl (cI, 12, .inl (upd f0 (0 : Int32).toNatClampNeg x))), (p1, .inl (cI, 12, .inl (upd f1 (0 : Int32).toNatClampNeg y))), (p2, .inl (cI, 12, .inl f2)), (p3, .inl (cI, 12, .inl f3)), (p4, .inl (cI, 12, .inl f4))] := hD
                refine lv_aload_n hx hb dX11_pitch_144 rfl (lv_at hl 1 rfl) ?_
                refine va_get (D := (dC, dI)) (ci := 11) (v := .ref p2) (C := RX11) (T := TX11) (N := 39) hx hb hts hiX11 hown hK hP 0 rfl rfl 14 (by decide) (hts (.fieldLink RX11 40 "TributePitchesModel" "toX" "[I") (by decide +kernel)) (fun _ h9 => h9) rfl dX11_pitch_145 ?_
                refine lv_aload_n hx hb dX11_pitch_148 rfl (lv_at hl 1 rfl) ?_
                refine va_get (D := (dC, dI)) (ci := 11) (v := .int 0) (C := RX11) (T := TX11) (N := 39) hx hb hts hiX11 hown hK hP 0 rfl rfl 11 (by decide) (hts (.fieldLink RX11 170 "TributePitchesModel" "pitches" "I") (by decide +kernel)) (fun _ h9 => h9) rfl dX11_pitch_149 ?_
                refine lv_iload_n hx hb dX11_pitch_152 rfl (lv_at hl 4 rfl) ?_
                refine va_iast hx hb hK hP hD hS 3 0 rfl rfl (by unfold vp_in; decide) dX11_pitch_153 (fun H locs hP hD hS => ?_)
                have hP : va_P (dC, dI) vwCl [(qm, .inr (11, [w0, w1, w2, w3, w4, w5, w6, w7, w8, w9, w10, .int 0, .ref p0, .ref p1, .ref p2, .ref p3, .ref p4, w17, w18, w19, w20, w21, w22, w23, w24, w25, w26, w27, w28, w29, w30, w31, w32, w33, w34, w35, w36, w37, w38])), (p0, .inl (cI, 12, .inl (upd f0 (0 : Int32).toNatClampNeg x))), (p1, .inl (cI, 12, .inl (upd f1 (0 : Int32).toNatClampNeg y))), (p2, .inl (cI, 12, .inl (upd f2 (0 : Int32).toNatClampNeg xx))), (p3, .inl (cI, 12, .inl f3)), (p4, .inl (cI, 12, .inl f4))] H := hP
                have hD : va_D _ [(qm, .inr (11, [w0, w1, w2, w3, w4, w5, w6, w7, w8, w9, w10, .int 0, .ref p0, .ref p1, .ref p2, .ref p3, .ref p4, w17, w18, w19, w20, w21, w22, w23, w24, w25, w26, w27, w28, w29, w30, w31, w32, w33, w34, w35, w36, w37, w38])), (p0, .inl (cI, 12, .inl (upd f0 (0 : Int32).toNatClampNeg x))), (p1, .inl (cI, 12, .inl (upd f1 (0 : Int32).toNatClampNeg y))), (p2, .inl (cI, 12, .inl (upd f2 (0 : Int32).toNatClampNeg xx))), (p3, .inl (cI, 12, .inl f3)), (p4, .inl (cI, 12, .inl f4))] := hD
                refine lv_aload_n hx hb dX11_pitch_154 rfl (lv_at hl 1 rfl) ?_
                refine va_get (D := (dC, dI)) (ci := 11) (v := .ref p3) (C := RX11) (T := TX11) (N := 39) hx hb hts hiX11 hown hK hP 0 rfl rfl 15 (by decide) (hts (.fieldLink RX11 43 "TributePitchesModel" "toY" "[I") (by decide +kernel)) (fun _ h9 => h9) rfl dX11_pitch_155 ?_
                refine lv_aload_n hx hb dX11_pitch_158 rfl (lv_at hl 1 rfl) ?_
                refine va_get (D := (dC, dI)) (ci := 11) (v := .int 0) (C := RX11) (T := TX11) (N := 39) hx hb hts hiX11 hown hK hP 0 rfl rfl 11 (by decide) (hts (.fieldLink RX11 170 "TributePitchesModel" "pitches" "I") (by decide +kernel)) (fun _ h9 => h9) rfl dX11_pitch_159 ?_
                refine lv_iload hx hb dX11_pitch_162 (lv_at hl 5 rfl) ?_
                refine va_iast hx hb hK hP hD hS 4 0 rfl rfl (by unfold vp_in; decide) dX11_pitch_164 (fun H locs hP hD hS => ?_)
                have hP : va_P (dC, dI) vwCl [(qm, .inr (11, [w0, w1, w2, w3, w4, w5, w6, w7, w8, w9, w10, .int 0, .ref p0, .ref p1, .ref p2, .ref p3, .ref p4, w17, w18, w19, w20, w21, w22, w23, w24, w25, w26, w27, w28, w29, w30, w31, w32, w33, w34, w35, w36, w37, w38])), (p0, .inl (cI, 12, .inl (upd f0 (0 : Int32).toNatClampNeg x))), (p1, .inl (cI, 12, .inl (upd f1 (0 : Int32).toNatClampNeg y))), (p2, .inl (cI, 12, .inl (upd f2 (0 : Int32).toNatClampNeg xx))), (p3, .inl (cI, 12, .inl (upd f3 (0 : Int32).toNatClampNeg yy))), (p4, .inl (cI, 12, .inl f4))] H := hP
                have hD : va_D _ [(qm, .inr (11, [w0, w1, w2, w3, w4, w5, w6, w7, w8, w9, w10, .int 0, .ref p0, .ref p1, .ref p2, .ref p3, .ref p4, w17, w18, w19, w20, w21, w22, w23, w24, w25, w26, w27, w28, w29, w30, w31, w32, w33, w34, w35, w36, w37, w38])), (p0, .inl (cI, 12, .inl (upd f0 (0 : Int32).toNatClampNeg x))), (p1, .inl (cI, 12, .inl (upd f1 (0 : Int32).toNatClampNeg y))), (p2, .inl (cI, 12, .inl (upd f2 (0 : Int32).toNatClampNeg xx))), (p3, .inl (cI, 12, .inl (upd f3 (0 : Int32).toNatClampNeg yy))), (p4, .inl (cI, 12, .inl f4))] := hD
                refine lv_aload_n hx hb dX11_pitch_165 rfl (lv_at hl 1 rfl) ?_
                refine va_get (D := (dC, dI)) (ci := 11) (v := .ref p4) (C := RX11) (T := TX11) (N := 39) hx hb hts hiX11 hown hK hP 0 rfl rfl 16 (by decide) (hts (.fieldLink RX11 46 "TributePitchesModel" "tonsOf" "[I") (by decide +kernel)) (fun _ h9 => h9) rfl dX11_pitch_166 ?_
                refine lv_aload_n hx hb dX11_pitch_169 rfl (lv_at hl 1 rfl) ?_
                refine va_get (D := (dC, dI)) (ci := 11) (v := .int 0) (C := RX11) (T := TX11) (N := 39) hx hb hts hiX11 hown hK hP 0 rfl rfl 11 (by decide) (hts (.fieldLink RX11 170 "TributePitchesModel" "pitches" "I") (by decide +kernel)) (fun _ h9 => h9) rfl dX11_pitch_170 ?_
                refine lv_iload hx hb dX11_pitch_173 (lv_at hl 6 rfl) ?_
                refine va_iast hx hb hK hP hD hS 5 0 rfl rfl (by unfold vp_in; decide) dX11_pitch_175 (fun H locs hP hD hS => ?_)
                have hP : va_P (dC, dI) vwCl [(qm, .inr (11, [w0, w1, w2, w3, w4, w5, w6, w7, w8, w9, w10, .int 0, .ref p0, .ref p1, .ref p2, .ref p3, .ref p4, w17, w18, w19, w20, w21, w22, w23, w24, w25, w26, w27, w28, w29, w30, w31, w32, w33, w34, w35, w36, w37, w38])), (p0, .inl (cI, 12, .inl (upd f0 (0 : Int32).toNatClampNeg x))), (p1, .inl (cI, 12, .inl (upd f1 (0 : Int32).toNatClampNeg y))), (p2, .inl (cI, 12, .inl (upd f2 (0 : Int32).toNatClampNeg xx))), (p3, .inl (cI, 12, .inl (upd f3 (0 : Int32).toNatClampNeg yy))), (p4, .inl (cI, 12, .inl (upd f4 (0 : Int32).toNatClampNeg tn)))] H := hP
                have hD : va_D _ [(qm, .inr (11, [w0, w1, w2, w3, w4, w5, w6, w7, w8, w9, w10, .int 0, .ref p0, .ref p1, .ref p2, .ref p3, .ref p4, w17, w18, w19, w20, w21, w22, w23, w24, w25, w26, w27, w28, w29, w30, w31, w32, w33, w34, w35, w36, w37, w38])), (p0, .inl (cI, 12, .inl (upd f0 (0 : Int32).toNatClampNeg x))), (p1, .inl (cI, 12, .inl (upd f1 (0 : Int32).toNatClampNeg y))), (p2, .inl (cI, 12, .inl (upd f2 (0 : Int32).toNatClampNeg xx))), (p3, .inl (cI, 12, .inl (upd f3 (0 : Int32).toNatClampNeg yy))), (p4, .inl (cI, 12, .inl (upd f4 (0 : Int32).toNatClampNeg tn)))] := hD
                refine lv_aload_n hx hb dX11_pitch_176 rfl (lv_at hl 1 rfl) ?_
                refine lv_dup hx hb dX11_pitch_177 rfl ?_
                refine va_get (D := (dC, dI)) (ci := 11) (v := .int 0) (C := RX11) (T := TX11) (N := 39) hx hb hts hiX11 hown hK hP 0 rfl rfl 11 (by decide) (hts (.fieldLink RX11 170 "TributePitchesModel" "pitches" "I") (by decide +kernel)) (fun _ h9 => h9) rfl dX11_pitch_178 ?_
                refine lv_iconst (v := 1) hx hb dX11_pitch_181 (by decide) ?_
                refine lv_iadd hx hb dX11_pitch_182 ?_
                refine lv_topi (fun v11 ev11 => ?_)
                have ev11 : v11 = 1 := by rw [ev11]; decide
                subst ev11
                refine va_put (D := (dC, dI)) (ci := 11) (v := .int 1) (ty := .int) (C := RX11) (T := TX11) (N := 39) hx hb hts hiX11 tyX11 tyX11_ok nmX11 hown hK hP hD hS 0 rfl rfl 11 (by decide) (hts (.fieldLink RX11 170 "TributePitchesModel" "pitches" "I") (by decide +kernel)) (fun _ h9 => h9) rfl (by decide +kernel) rfl rfl (Nat.le_of_ble_eq_true rfl) dX11_pitch_183 (fun H locs hP hD hS => ?_)
                have hP : va_P (dC, dI) vwCl [(qm, .inr (11, [w0, w1, w2, w3, w4, w5, w6, w7, w8, w9, w10, .int 1, .ref p0, .ref p1, .ref p2, .ref p3, .ref p4, w17, w18, w19, w20, w21, w22, w23, w24, w25, w26, w27, w28, w29, w30, w31, w32, w33, w34, w35, w36, w37, w38])), (p0, .inl (cI, 12, .inl (upd f0 (0 : Int32).toNatClampNeg x))), (p1, .inl (cI, 12, .inl (upd f1 (0 : Int32).toNatClampNeg y))), (p2, .inl (cI, 12, .inl (upd f2 (0 : Int32).toNatClampNeg xx))), (p3, .inl (cI, 12, .inl (upd f3 (0 : Int32).toNatClampNeg yy))), (p4, .inl (cI, 12, .inl (upd f4 (0 : Int32).toNatClampNeg tn)))] H := hP
                have hD : va_D _ [(qm, .inr (11, [w0, w1, w2, w3, w4, w5, w6, w7, w8, w9, w10, .int 1, .ref p0, .ref p1, .ref p2, .ref p3, .ref p4, w17, w18, w19, w20, w21, w22, w23, w24, w25, w26, w27, w28, w29, w30, w31, w32, w33, w34, w35, w36, w37, w38])), (p0, .inl (cI, 12, .inl (upd f0 (0 : Int32).toNatClampNeg x))), (p1, .inl (cI, 12, .inl (upd f1 (0 : Int32).toNatClampNeg y))), (p2, .inl (cI, 12, .inl (upd f2 (0 : Int32).toNatClampNeg xx))), (p3, .inl (cI, 12, .inl (upd f3 (0 : Int32).toNatClampNeg yy))), (p4, .inl (cI, 12, .inl (upd f4 (0 : Int32).toNatClampNeg tn)))] := hD
                refine lv_aload_n hx hb dX11_pitch_186 rfl (lv_at hl 1 rfl) ?_
                refine va_get (D := (dC, dI)) (ci := 11) (v := .int 1) (C := RX11) (T := TX11) (N := 39) hx hb hts hiX11 hown hK hP 0 rfl rfl 11 (by decide) (hts (.fieldLink RX11 170 "TributePitchesModel" "pitches" "I") (by decide +kernel)) (fun _ h9 => h9) rfl dX11_pitch_187 ?_
                refine lv_iconst (v := 1) hx hb dX11_pitch_190 (by decide) ?_
                refine lv_isub hx hb dX11_pitch_191 ?_
                refine lv_topi (fun v12 ev12 => ?_)
                have ev12 : v12 = 0 := by rw [ev12]; decide
                subst ev12
                exact W.iret (v := 0) hx hb hr (fun t ht hW => ⟨⟨0, (), rfl, (by simp [sp_pitch, c2, c4, c5, c6, c8, c9, c10]), trivial⟩, hS.F ht⟩) hS.2.2 dX11_pitch_192
              · exact absurd c10 (by decide)
            · exact absurd c9 (by decide)
          · skip
            have c8 := (fa_bool_prop hr7).1.mp c8
            refine lv_bipush (v := (-2)) hx hb dX11_pitch_43 (by decide) ?_
            exact W.iret (v := (-2)) hx hb hr (fun t ht hW => ⟨⟨(-2), (), rfl, (by simp [sp_pitch, c2, c4, c5, c6, c8]), trivial⟩, hS.F ht⟩) hS.2.2 dX11_pitch_45
    · skip
      have c4 := (fa_bool_prop hr3).1.mp c4
      refine lv_iconst (v := (-1)) hx hb dX11_pitch_17 (by decide) ?_
      exact W.iret (v := (-1)) hx hb hr (fun t ht hW => ⟨⟨(-1), (), rfl, (by simp [sp_pitch, c2, c4]), trivial⟩, hS.F ht⟩) hS.2.2 dX11_pitch_18
set_option maxHeartbeats 4000000 in
set_option maxRecDepth 100000 in
theorem c_X11_gang (l : Launch) (dC : Nat → ClassId) (dI : Nat → Nat → Nat) (cI : ClassId) (sz : Nat) (qm : Nat) (w0 : Value) (w1 : Value) (w2 : Value) (w3 : Value) (w4 : Value) (w5 : Value) (w6 : Value) (w7 : Value) (w8 : Value) (w9 : Value) (w10 : Value) (w11 : Value) (w12 : Value) (w13 : Value) (w14 : Value) (w15 : Value) (w16 : Value) (w19 : Value) (w20 : Value) (w21 : Value) (w22 : Value) (w23 : Value) (w24 : Value) (w25 : Value) (w26 : Value) (w27 : Value) (w28 : Value) (w29 : Value) (w30 : Value) (w31 : Value) (w32 : Value) (w33 : Value) (w34 : Value) (w35 : Value) (w36 : Value) (w37 : Value) (w38 : Value) (so : Nat) (k : Int32) (f0 : Nat → Int32)  : Met l yX11_gang wsX11_gang ({ frames := 2, cells := 0, slots := 0, locals := 60 }) (pw (dC, dI) [(cI, .int)] [(qm, .inr (11, [w0, w1, w2, w3, w4, w5, w6, w7, w8, w9, w10, w11, w12, w13, w14, w15, w16, .int 0, .ref so, w19, w20, w21, w22, w23, w24, w25, w26, w27, w28, w29, w30, w31, w32, w33, w34, w35, w36, w37, w38])), (so, .inl (cI, 8, .inl f0))] sz [.ref qm, .int k]) (va_Qi (fun r (_ : Unit) => r = sp_gang k) (fun _ _ => True) (va_A [(qm, .inr (11, [w0, w1, w2, w3, w4, w5, w6, w7, w8, w9, w10, w11, w12, w13, w14, w15, w16, .int 0, .ref so, w19, w20, w21, w22, w23, w24, w25, w26, w27, w28, w29, w30, w31, w32, w33, w34, w35, w36, w37, w38])), (so, .inl (cI, 8, .inl f0))] sz)) 0 0 (va_A [(qm, .inr (11, [w0, w1, w2, w3, w4, w5, w6, w7, w8, w9, w10, w11, w12, w13, w14, w15, w16, .int 0, .ref so, w19, w20, w21, w22, w23, w24, w25, w26, w27, w28, w29, w30, w31, w32, w33, w34, w35, w36, w37, w38])), (so, .inl (cI, 8, .inl f0))] sz) := by
  refine pw_met (cc := cX11_gang) (maxL := 2) (ret := (some .int)) (by decide) rfl (Nat.le_of_ble_eq_true rfl) ?_
  intro p e s m below meth c0 hx hb hr hml hown hlocks hnm hts hP hK hD hN hsz hA hS ls hl
  subst hsz
  have hl : lv_has ls 2 [(0, .ref qm), (1, .int k)] := hl
  have hiX11 : ∀ w ∈ wsX110, w ∈ wsX11_gang := by decide +kernel
  refine lv_iload_n hx hb dX11_gang_0 rfl (lv_at hl 1 rfl) ?_
  refine lv_i2l (v := k.toInt64) hx hb dX11_gang_1 rfl ?_
  refine lv_lconst (v := 0) hx hb dX11_gang_2 (by decide) ?_
  refine lv_ldc2 (v := 2) hx hb hown (hts (.constantLong RX11 151 (2)) (by decide +kernel)) dX11_gang_3 ?_
  refine vp_callSi (va_Run.run (va_runS (As := [.long k.toInt64, .long 0, .long 2]) (rest := []) ⟨hx, hb, hml, hown, hts⟩ (c_X11_in l k.toInt64 0 2 ) (va_cwS 3 hts gX11_gang_X11_in rfl rfl rfl (by decide +kernel) ⟨Nat.le_of_ble_eq_true rfl, Nat.le_of_ble_eq_true rfl⟩) (p0_preS hN) rfl rfl hl.1 rfl (lv_room (Nat.le_of_ble_eq_true rfl)) dX11_gang_6 ⟨Nat.le_of_ble_eq_true rfl, Nat.le_of_ble_eq_true rfl⟩)) (fun r1 hr1 => ?_)
  have hr1 : r1 = if 0 ≤ k.toInt64 ∧ k.toInt64 ≤ 2 then 1 else 0 := hr1
  have hr1 := hr1.trans (in_w _ 0 2 (by decide) (by decide))
  refine lv_if_ne (tgt := 15) hx hb dX11_gang_9 (by decide) (fun c2 => ?_) (fun c2 => ?_)
  · skip
    have c2 := (fa_bool_prop hr1).2.mp c2
    refine lv_aload_n hx hb dX11_gang_15 rfl (lv_at hl 0 rfl) ?_
    refine va_get (D := (dC, dI)) (ci := 11) (v := .int 0) (C := RX11) (T := TX11) (N := 39) hx hb hts hiX11 hown hK hP 0 rfl rfl 17 (by decide) (hts (.fieldLink RX11 185 "TributePitchesModel" "gangs" "I") (by decide +kernel)) (fun _ h9 => h9) rfl dX11_gang_16 ?_
    refine lv_bipush (v := 8) hx hb dX11_gang_19 (by decide) ?_
    refine lv_icmp_ne (tgt := 27) hx hb dX11_gang_21 (by decide) (fun c3 => ?_) (fun c3 => ?_)
    · skip
      refine lv_aload_n hx hb dX11_gang_27 rfl (lv_at hl 0 rfl) ?_
      refine va_get (D := (dC, dI)) (ci := 11) (v := .ref so) (C := RX11) (T := TX11) (N := 39) hx hb hts hiX11 hown hK hP 0 rfl rfl 18 (by decide) (hts (.fieldLink RX11 49 "TributePitchesModel" "sort" "[I") (by decide +kernel)) (fun _ h9 => h9) rfl dX11_gang_28 ?_
      refine lv_aload_n hx hb dX11_gang_31 rfl (lv_at hl 0 rfl) ?_
      refine va_get (D := (dC, dI)) (ci := 11) (v := .int 0) (C := RX11) (T := TX11) (N := 39) hx hb hts hiX11 hown hK hP 0 rfl rfl 17 (by decide) (hts (.fieldLink RX11 185 "TributePitchesModel" "gangs" "I") (by decide +kernel)) (fun _ h9 => h9) rfl dX11_gang_32 ?_
      refine lv_iload_n hx hb dX11_gang_35 rfl (lv_at hl 1 rfl) ?_
      refine va_iast hx hb hK hP hD hS 1 0 rfl rfl (by unfold vp_in; decide) dX11_gang_36 (fun H locs hP hD hS => ?_)
      have hP : va_P (dC, dI) vwCl [(qm, .inr (11, [w0, w1, w2, w3, w4, w5, w6, w7, w8, w9, w10, w11, w12, w13, w14, w15, w16, .int 0, .ref so, w19, w20, w21, w22, w23, w24, w25, w26, w27, w28, w29, w30, w31, w32, w33, w34, w35, w36, w37, w38])), (so, .inl (cI, 8, .inl (upd f0 (0 : Int32).toNatClampNeg k)))] H := hP
      have hD : va_D _ [(qm, .inr (11, [w0, w1, w2, w3, w4, w5, w6, w7, w8, w9, w10, w11, w12, w13, w14, w15, w16, .int 0, .ref so, w19, w20, w21, w22, w23, w24, w25, w26, w27, w28, w29, w30, w31, w32, w33, w34, w35, w36, w37, w38])), (so, .inl (cI, 8, .inl (upd f0 (0 : Int32).toNatClampNeg k)))] := hD
      refine lv_aload_n hx hb dX11_gang_37 rfl (lv_at hl 0 rfl) ?_
      refine lv_dup hx hb dX11_gang_38 rfl ?_
      refine va_get (D := (dC, dI)) (ci := 11) (v := .int 0) (C := RX11) (T := TX11) (N := 39) hx hb hts hiX11 hown hK hP 0 rfl rfl 17 (by decide) (hts (.fieldLink RX11 185 "TributePitchesModel" "gangs" "I") (by decide +kernel)) (fun _ h9 => h9) rfl dX11_gang_39 ?_
      refine lv_iconst (v := 1) hx hb dX11_gang_42 (by decide) ?_
      refine lv_iadd hx hb dX11_gang_43 ?_
      refine lv_topi (fun v4 ev4 => ?_)
      have ev4 : v4 = 1 := by rw [ev4]; decide
      subst ev4
      refine va_put (D := (dC, dI)) (ci := 11) (v := .int 1) (ty := .int) (C := RX11) (T := TX11) (N := 39) hx hb hts hiX11 tyX11 tyX11_ok nmX11 hown hK hP hD hS 0 rfl rfl 17 (by decide) (hts (.fieldLink RX11 185 "TributePitchesModel" "gangs" "I") (by decide +kernel)) (fun _ h9 => h9) rfl (by decide +kernel) rfl rfl (Nat.le_of_ble_eq_true rfl) dX11_gang_44 (fun H locs hP hD hS => ?_)
      have hP : va_P (dC, dI) vwCl [(qm, .inr (11, [w0, w1, w2, w3, w4, w5, w6, w7, w8, w9, w10, w11, w12, w13, w14, w15, w16, .int 1, .ref so, w19, w20, w21, w22, w23, w24, w25, w26, w27, w28, w29, w30, w31, w32, w33, w34, w35, w36, w37, w38])), (so, .inl (cI, 8, .inl (upd f0 (0 : Int32).toNatClampNeg k)))] H := hP
      have hD : va_D _ [(qm, .inr (11, [w0, w1, w2, w3, w4, w5, w6, w7, w8, w9, w10, w11, w12, w13, w14, w15, w16, .int 1, .ref so, w19, w20, w21, w22, w23, w24, w25, w26, w27, w28, w29, w30, w31, w32, w33, w34, w35, w36, w37, w38])), (so, .inl (cI, 8, .inl (upd f0 (0 : Int32).toNatClampNeg k)))] := hD
      refine lv_aload_n hx hb dX11_gang_47 rfl (lv_at hl 0 rfl) ?_
      refine va_get (D := (dC, dI)) (ci := 11) (v := .int 1) (C := RX11) (T := TX11) (N := 39) hx hb hts hiX11 hown hK hP 0 rfl rfl 17 (by decide) (hts (.fieldLink RX11 185 "TributePitchesModel" "gangs" "I") (by decide +kernel)) (fun _ h9 => h9) rfl dX11_gang_48 ?_
      refine lv_iconst (v := 1) hx hb dX11_gang_51 (by decide) ?_
      refine lv_isub hx hb dX11_gang_52 ?_
      refine lv_topi (fun v5 ev5 => ?_)
      have ev5 : v5 = 0 := by rw [ev5]; decide
      subst ev5
      exact W.iret (v := 0) hx hb hr (fun t ht hW => ⟨⟨0, (), rfl, (by simp [sp_gang, c2, c3]), trivial⟩, hS.F ht⟩) hS.2.2 dX11_gang_53
    · exact absurd c3 (by decide)
  · skip
    have c2 := (fa_bool_prop hr1).1.mp c2
    refine lv_bipush (v := (-2)) hx hb dX11_gang_12 (by decide) ?_
    exact W.iret (v := (-2)) hx hb hr (fun t ht hW => ⟨⟨(-2), (), rfl, (by simp [sp_gang, c2]), trivial⟩, hS.F ht⟩) hS.2.2 dX11_gang_14
