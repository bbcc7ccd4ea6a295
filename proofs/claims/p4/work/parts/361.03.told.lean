def pR_told (zr : RS2) (a0 : Int32) (r : Int32) (u : RS2) : Prop :=
  (a0 = 0 ∧ r = (nI (rs_n zr 0)) ∧ u = zr) ∨
  (a0 = 1 ∧ r = (nI (rs_n zr 1)) ∧ u = zr) ∨
  (a0 = 2 ∧ r = (nI (rs_n zr 2)) ∧ u = zr) ∨
  (a0 = 3 ∧ r = (nI (rs_n zr 3)) ∧ u = zr) ∨
  (a0 = 4 ∧ r = (rs_i zr 1) ∧ u = zr) ∨
  (a0 = 5 ∧ (0 ≤ (rs_i zr 20)) ∧ r = (rs_i zr 22) ∧ u = zr) ∨
  (a0 = 5 ∧ (¬ 0 ≤ (rs_i zr 20)) ∧ r = ((-9)) ∧ u = zr) ∨
  (a0 = 6 ∧ r = (rs_i zr 20) ∧ u = zr) ∨
  (a0 = 7 ∧ (0 ≤ (rs_i zr 20)) ∧ r = (rs_i zr 21) ∧ u = zr) ∨
  (a0 = 7 ∧ (¬ 0 ≤ (rs_i zr 20)) ∧ r = ((-9)) ∧ u = zr) ∨
  ((¬ a0 = 0) ∧ (¬ a0 = 1) ∧ (¬ a0 = 2) ∧ (¬ a0 = 3) ∧ (¬ a0 = 4) ∧ (¬ a0 = 5) ∧ (¬ a0 = 6) ∧ (¬ a0 = 7) ∧ r = ((-2)) ∧ u = zr)
set_option maxHeartbeats 4000000 in
set_option maxRecDepth 100000 in
theorem M_told (l : Launch) (dC : Nat → ClassId) (dI : Nat → Nat → Nat) (cI cJ cZ : ClassId) (sz : Nat) (qm : Nat) (ad : Nat → Nat) (zr : RS2) (a0 : Int32) (hI : invR zr) : Met l yX11_told wsX11_told ({ frames := 3, cells := 0, slots := 0, locals := 90 }) (pw (dC, dI) [(cI, .int), (cJ, .long), (cZ, .boolean)] (rW qm cI cJ cZ ad zr) sz [.ref qm, .int a0]) (va_Qi (fun r (u : RS2) => invR u ∧ pR_told zr a0 r u) (fun u t => bw (dC, dI) [(cI, .int), (cJ, .long), (cZ, .boolean)] (va_A (rW qm cI cJ cZ ad zr) sz) (rW qm cI cJ cZ ad u) t) (va_A (rW qm cI cJ cZ ad zr) sz)) 0 0 (va_A (rW qm cI cJ cZ ad zr) sz) := by
  refine pw_met (cc := cX11_told) (maxL := 2) (ret := (some .int)) (by decide) rfl (Nat.le_of_ble_eq_true rfl) ?_
  intro p e s m below meth c0 hx hb hr hml hown hlocks hnm hts hP0 hK hD0 hN hsz hA hS ls hl
  subst hsz
  have hP : va_P (dC, dI) vwCl [rcO qm ad zr, rcI cI ad zr 2 48, rcI cI ad zr 3 48, rcI cI ad zr 4 48, rcI cI ad zr 5 48, rcI cI ad zr 7 4, rcI cI ad zr 8 4, rcI cI ad zr 9 192, rcI cI ad zr 10 48, rcI cI ad zr 12 12, rcI cI ad zr 13 12, rcI cI ad zr 14 12, rcI cI ad zr 15 12, rcI cI ad zr 16 12, rcI cI ad zr 18 8, rcJ cJ ad zr 19 8, rcI cI ad zr 25 40, rcI cI ad zr 26 40, rcI cI ad zr 27 40, rcI cZ ad zr 28 40, rcJ cJ ad zr 29 40, rcJ cJ ad zr 30 40, rcJ cJ ad zr 31 40, rcJ cJ ad zr 32 40, rcJ cJ ad zr 33 40, rcI cI ad zr 35 80, rcI cI ad zr 36 80, rcI cI ad zr 37 80] s.heap := hP0
  have hD : va_D (va_A (rW qm cI cJ cZ ad zr) s.heap.size) [rcO qm ad zr, rcI cI ad zr 2 48, rcI cI ad zr 3 48, rcI cI ad zr 4 48, rcI cI ad zr 5 48, rcI cI ad zr 7 4, rcI cI ad zr 8 4, rcI cI ad zr 9 192, rcI cI ad zr 10 48, rcI cI ad zr 12 12, rcI cI ad zr 13 12, rcI cI ad zr 14 12, rcI cI ad zr 15 12, rcI cI ad zr 16 12, rcI cI ad zr 18 8, rcJ cJ ad zr 19 8, rcI cI ad zr 25 40, rcI cI ad zr 26 40, rcI cI ad zr 27 40, rcI cZ ad zr 28 40, rcJ cJ ad zr 29 40, rcJ cJ ad zr 30 40, rcJ cJ ad zr 31 40, rcJ cJ ad zr 32 40, rcJ cJ ad zr 33 40, rcI cI ad zr 35 80, rcI cI ad zr 36 80, rcI cI ad zr 37 80] := hD0
  obtain ⟨⟨hn0, hn1, hn2, hn3⟩, hfar, hlh, hss, hsold, htk, hpk⟩ := id hI
  have hl : lv_has ls 2 [(0, .ref qm), (1, .int a0)] := hl
  have hiX11 : ∀ w ∈ wsX110, w ∈ wsX11_told := by decide +kernel
  generalize hQ : MQ _ _ _ _ _ _ _ = Q
  refine lv_iload_n hx hb dX11_told_0 rfl (lv_at hl 1 rfl) ?_
  by_cases hw1 : a0 = 0
  · subst hw1
    refine lv_tableIn (off := 47) (tgt := 48) hx hb dX11_told_1 (by decide) (by decide) rfl (by decide) ?_
    refine lv_aload_n hx hb dX11_told_48 rfl (lv_at hl 0 rfl) ?_
    refine va_get (D := (dC, dI)) (ci := 11) (v := .int (nI (rs_n zr 0))) (C := RX11) (T := TX11) (N := 39) hx hb hts hiX11 hown hK hP 0 rfl rfl 11 (by decide) (hts (.fieldLink RX11 170 "TributePitchesModel" "pitches" "I") (by decide +kernel)) (fun _ h9 => h9) rfl dX11_told_49 ?_
    subst hQ
    exact W.iret (v := nI (rs_n zr 0)) hx hb hr (fun t ht hW => ⟨⟨nI (rs_n zr 0), zr, rfl, ⟨hI, (Or.inl ⟨rfl, rfl, rfl⟩)⟩, (by rw [ht]; exact hP0), va_K.moved hW.alike hK, hD0⟩, (by rw [ht]; exact Nat.le_refl _), fun q _ _ => by rw [ht]⟩) (fun q h => absurd h List.not_mem_nil) dX11_told_52
  by_cases hw2 : a0 = 1
  · subst hw2
    refine lv_tableIn (off := 52) (tgt := 53) hx hb dX11_told_1 (by decide) (by decide) rfl (by decide) ?_
    refine lv_aload_n hx hb dX11_told_53 rfl (lv_at hl 0 rfl) ?_
    refine va_get (D := (dC, dI)) (ci := 11) (v := .int (nI (rs_n zr 1))) (C := RX11) (T := TX11) (N := 39) hx hb hts hiX11 hown hK hP 0 rfl rfl 17 (by decide) (hts (.fieldLink RX11 185 "TributePitchesModel" "gangs" "I") (by decide +kernel)) (fun _ h9 => h9) rfl dX11_told_54 ?_
    subst hQ
    exact W.iret (v := nI (rs_n zr 1)) hx hb hr (fun t ht hW => ⟨⟨nI (rs_n zr 1), zr, rfl, ⟨hI, (Or.inr (Or.inl ⟨rfl, rfl, rfl⟩))⟩, (by rw [ht]; exact hP0), va_K.moved hW.alike hK, hD0⟩, (by rw [ht]; exact Nat.le_refl _), fun q _ _ => by rw [ht]⟩) (fun q h => absurd h List.not_mem_nil) dX11_told_57
  by_cases hw3 : a0 = 2
  · subst hw3
    refine lv_tableIn (off := 57) (tgt := 58) hx hb dX11_told_1 (by decide) (by decide) rfl (by decide) ?_
    refine lv_aload_n hx hb dX11_told_58 rfl (lv_at hl 0 rfl) ?_
    refine va_get (D := (dC, dI)) (ci := 11) (v := .int (nI (rs_n zr 2))) (C := RX11) (T := TX11) (N := 39) hx hb hts hiX11 hown hK hP 0 rfl rfl 24 (by decide) (hts (.fieldLink RX11 188 "TributePitchesModel" "takes" "I") (by decide +kernel)) (fun _ h9 => h9) rfl dX11_told_59 ?_
    subst hQ
    exact W.iret (v := nI (rs_n zr 2)) hx hb hr (fun t ht hW => ⟨⟨nI (rs_n zr 2), zr, rfl, ⟨hI, (Or.inr (Or.inr (Or.inl ⟨rfl, rfl, rfl⟩)))⟩, (by rw [ht]; exact hP0), va_K.moved hW.alike hK, hD0⟩, (by rw [ht]; exact Nat.le_refl _), fun q _ _ => by rw [ht]⟩) (fun q h => absurd h List.not_mem_nil) dX11_told_62
  by_cases hw4 : a0 = 3
  · subst hw4
    refine lv_tableIn (off := 62) (tgt := 63) hx hb dX11_told_1 (by decide) (by decide) rfl (by decide) ?_
    refine lv_aload_n hx hb dX11_told_63 rfl (lv_at hl 0 rfl) ?_
    refine va_get (D := (dC, dI)) (ci := 11) (v := .int (nI (rs_n zr 3))) (C := RX11) (T := TX11) (N := 39) hx hb hts hiX11 hown hK hP 0 rfl rfl 34 (by decide) (hts (.fieldLink RX11 217 "TributePitchesModel" "parcels" "I") (by decide +kernel)) (fun _ h9 => h9) rfl dX11_told_64 ?_
    subst hQ
    exact W.iret (v := nI (rs_n zr 3)) hx hb hr (fun t ht hW => ⟨⟨nI (rs_n zr 3), zr, rfl, ⟨hI, (Or.inr (Or.inr (Or.inr (Or.inl ⟨rfl, rfl, rfl⟩))))⟩, (by rw [ht]; exact hP0), va_K.moved hW.alike hK, hD0⟩, (by rw [ht]; exact Nat.le_refl _), fun q _ _ => by rw [ht]⟩) (fun q h => absurd h List.not_mem_nil) dX11_told_67
  by_cases hw5 : a0 = 4
  · subst hw5
    refine lv_tableIn (off := 67) (tgt := 68) hx hb dX11_told_1 (by decide) (by decide) rfl (by decide) ?_
    refine lv_aload_n hx hb dX11_told_68 rfl (lv_at hl 0 rfl) ?_
    refine va_get (D := (dC, dI)) (ci := 11) (v := .int (rs_i zr 1)) (C := RX11) (T := TX11) (N := 39) hx hb hts hiX11 hown hK hP 0 rfl rfl 1 (by decide) (hts (.fieldLink RX11 93 "TributePitchesModel" "far" "I") (by decide +kernel)) (fun _ h9 => h9) rfl dX11_told_69 ?_
    subst hQ
    exact W.iret (v := rs_i zr 1) hx hb hr (fun t ht hW => ⟨⟨rs_i zr 1, zr, rfl, ⟨hI, (Or.inr (Or.inr (Or.inr (Or.inr (Or.inl ⟨rfl, rfl, rfl⟩)))))⟩, (by rw [ht]; exact hP0), va_K.moved hW.alike hK, hD0⟩, (by rw [ht]; exact Nat.le_refl _), fun q _ _ => by rw [ht]⟩) (fun q h => absurd h List.not_mem_nil) dX11_told_72
  by_cases hw6 : a0 = 5
  · subst hw6
    refine lv_tableIn (off := 72) (tgt := 73) hx hb dX11_told_1 (by decide) (by decide) rfl (by decide) ?_
    refine lv_aload_n hx hb dX11_told_73 rfl (lv_at hl 0 rfl) ?_
    refine va_get (D := (dC, dI)) (ci := 11) (v := .int (rs_i zr 20)) (C := RX11) (T := TX11) (N := 39) hx hb hts hiX11 hown hK hP 0 rfl rfl 20 (by decide) (hts (.fieldLink RX11 97 "TributePitchesModel" "sold" "I") (by decide +kernel)) (fun _ h9 => h9) rfl dX11_told_74 ?_
    refine lv_if_ge (tgt := 85) hx hb dX11_told_77 (by decide) (fun c7 => ?_) (fun c7 => ?_)
    · skip
      refine lv_aload_n hx hb dX11_told_85 rfl (lv_at hl 0 rfl) ?_
      refine va_get (D := (dC, dI)) (ci := 11) (v := .int (rs_i zr 22)) (C := RX11) (T := TX11) (N := 39) hx hb hts hiX11 hown hK hP 0 rfl rfl 22 (by decide) (hts (.fieldLink RX11 199 "TributePitchesModel" "bids" "I") (by decide +kernel)) (fun _ h9 => h9) rfl dX11_told_86 ?_
      subst hQ
      exact W.iret (v := rs_i zr 22) hx hb hr (fun t ht hW => ⟨⟨rs_i zr 22, zr, rfl, ⟨hI, (Or.inr (Or.inr (Or.inr (Or.inr (Or.inr (Or.inl ⟨rfl, c7, rfl, rfl⟩))))))⟩, (by rw [ht]; exact hP0), va_K.moved hW.alike hK, hD0⟩, (by rw [ht]; exact Nat.le_refl _), fun q _ _ => by rw [ht]⟩) (fun q h => absurd h List.not_mem_nil) dX11_told_89
    · skip
      refine lv_bipush (v := (-9)) hx hb dX11_told_80 (by decide) ?_
      refine lv_goto (tgt := 89) hx hb dX11_told_82 (by decide) ?_
      subst hQ
      exact W.iret (v := (-9)) hx hb hr (fun t ht hW => ⟨⟨(-9), zr, rfl, ⟨hI, (Or.inr (Or.inr (Or.inr (Or.inr (Or.inr (Or.inr (Or.inl ⟨rfl, c7, rfl, rfl⟩)))))))⟩, (by rw [ht]; exact hP0), va_K.moved hW.alike hK, hD0⟩, (by rw [ht]; exact Nat.le_refl _), fun q _ _ => by rw [ht]⟩) (fun q h => absurd h List.not_mem_nil) dX11_told_89
  by_cases hw8 : a0 = 6
  · subst hw8
    refine lv_tableIn (off := 89) (tgt := 90) hx hb dX11_told_1 (by decide) (by decide) rfl (by decide) ?_
    refine lv_aload_n hx hb dX11_told_90 rfl (lv_at hl 0 rfl) ?_
    refine va_get (D := (dC, dI)) (ci := 11) (v := .int (rs_i zr 20)) (C := RX11) (T := TX11) (N := 39) hx hb hts hiX11 hown hK hP 0 rfl rfl 20 (by decide) (hts (.fieldLink RX11 97 "TributePitchesModel" "sold" "I") (by decide +kernel)) (fun _ h9 => h9) rfl dX11_told_91 ?_
    subst hQ
    exact W.iret (v := rs_i zr 20) hx hb hr (fun t ht hW => ⟨⟨rs_i zr 20, zr, rfl, ⟨hI, (Or.inr (Or.inr (Or.inr (Or.inr (Or.inr (Or.inr (Or.inr (Or.inl ⟨rfl, rfl, rfl⟩))))))))⟩, (by rw [ht]; exact hP0), va_K.moved hW.alike hK, hD0⟩, (by rw [ht]; exact Nat.le_refl _), fun q _ _ => by rw [ht]⟩) (fun q h => absurd h List.not_mem_nil) dX11_told_94
  by_cases hw9 : a0 = 7
  · subst hw9
    refine lv_tableIn (off := 94) (tgt := 95) hx hb dX11_told_1 (by decide) (by decide) rfl (by decide) ?_
    refine lv_aload_n hx hb dX11_told_95 rfl (lv_at hl 0 rfl) ?_
    refine va_get (D := (dC, dI)) (ci := 11) (v := .int (rs_i zr 20)) (C := RX11) (T := TX11) (N := 39) hx hb hts hiX11 hown hK hP 0 rfl rfl 20 (by decide) (hts (.fieldLink RX11 97 "TributePitchesModel" "sold" "I") (by decide +kernel)) (fun _ h9 => h9) rfl dX11_told_96 ?_
    refine lv_if_ge (tgt := 107) hx hb dX11_told_99 (by decide) (fun c10 => ?_) (fun c10 => ?_)
    · skip
      refine lv_aload_n hx hb dX11_told_107 rfl (lv_at hl 0 rfl) ?_
      refine va_get (D := (dC, dI)) (ci := 11) (v := .int (rs_i zr 21)) (C := RX11) (T := TX11) (N := 39) hx hb hts hiX11 hown hK hP 0 rfl rfl 21 (by decide) (hts (.fieldLink RX11 196 "TributePitchesModel" "latest" "I") (by decide +kernel)) (fun _ h9 => h9) rfl dX11_told_108 ?_
      subst hQ
      exact W.iret (v := rs_i zr 21) hx hb hr (fun t ht hW => ⟨⟨rs_i zr 21, zr, rfl, ⟨hI, (Or.inr (Or.inr (Or.inr (Or.inr (Or.inr (Or.inr (Or.inr (Or.inr (Or.inl ⟨rfl, c10, rfl, rfl⟩)))))))))⟩, (by rw [ht]; exact hP0), va_K.moved hW.alike hK, hD0⟩, (by rw [ht]; exact Nat.le_refl _), fun q _ _ => by rw [ht]⟩) (fun q h => absurd h List.not_mem_nil) dX11_told_111
    · skip
      refine lv_bipush (v := (-9)) hx hb dX11_told_102 (by decide) ?_
      refine lv_goto (tgt := 111) hx hb dX11_told_104 (by decide) ?_
      subst hQ
      exact W.iret (v := (-9)) hx hb hr (fun t ht hW => ⟨⟨(-9), zr, rfl, ⟨hI, (Or.inr (Or.inr (Or.inr (Or.inr (Or.inr (Or.inr (Or.inr (Or.inr (Or.inr (Or.inl ⟨rfl, c10, rfl, rfl⟩))))))))))⟩, (by rw [ht]; exact hP0), va_K.moved hW.alike hK, hD0⟩, (by rw [ht]; exact Nat.le_refl _), fun q _ _ => by rw [ht]⟩) (fun q h => absurd h List.not_mem_nil) dX11_told_111
  refine lv_tableOut (tgt := 112) hx hb dX11_told_1 (tb_out8 hw1 hw2 hw3 hw4 hw5 hw6 hw8 hw9) (by decide) ?_
  refine lv_bipush (v := (-2)) hx hb dX11_told_112 (by decide) ?_
  subst hQ
  exact W.iret (v := (-2)) hx hb hr (fun t ht hW => ⟨⟨(-2), zr, rfl, ⟨hI, (Or.inr (Or.inr (Or.inr (Or.inr (Or.inr (Or.inr (Or.inr (Or.inr (Or.inr (Or.inr ⟨hw1, hw2, hw3, hw4, hw5, hw6, hw8, hw9, rfl, rfl⟩))))))))))⟩, (by rw [ht]; exact hP0), va_K.moved hW.alike hK, hD0⟩, (by rw [ht]; exact Nat.le_refl _), fun q _ _ => by rw [ht]⟩) (fun q h => absurd h List.not_mem_nil) dX11_told_114
