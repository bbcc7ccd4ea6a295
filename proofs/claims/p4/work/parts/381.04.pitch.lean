def pR_pitch (zr : RS2) (x : Int32) (y : Int32) (xx : Int32) (yy : Int32) (tn : Int32) (r : Int32) (u : RS2) : Prop :=
  ((¬ ((0 ≤ x ∧ x ≤ 7) ∧ (0 ≤ y ∧ y ≤ 5))) ∧ r = ((-1)) ∧ u = zr) ∨
  (((0 ≤ x ∧ x ≤ 7) ∧ (0 ≤ y ∧ y ≤ 5)) ∧ ((0 ≤ xx ∧ xx ≤ 7) ∧ (0 ≤ yy ∧ yy ≤ 5)) ∧ (xx < x) ∧ r = ((-2)) ∧ u = zr) ∨
  (((0 ≤ x ∧ x ≤ 7) ∧ (0 ≤ y ∧ y ≤ 5)) ∧ ((0 ≤ xx ∧ xx ≤ 7) ∧ (0 ≤ yy ∧ yy ≤ 5)) ∧ (¬ xx < x) ∧ (yy < y) ∧ r = ((-2)) ∧ u = zr) ∨
  (((0 ≤ x ∧ x ≤ 7) ∧ (0 ≤ y ∧ y ≤ 5)) ∧ ((0 ≤ xx ∧ xx ≤ 7) ∧ (0 ≤ yy ∧ yy ≤ 5)) ∧ (¬ xx < x) ∧ (¬ yy < y) ∧ (1 ≤ tn ∧ tn ≤ 100) ∧ (¬ (nI (rs_n zr 0)) = 12) ∧ (rs_n zr 0 < 12) ∧ (∀ p, p < rs_n zr 0 → ¬ (x ≤ rs_I zr 14 p ∧ rs_I zr 12 p ≤ xx ∧ y ≤ rs_I zr 15 p ∧ rs_I zr 13 p ≤ yy)) ∧ r = (nI (rs_n zr 0)) ∧ u = (rs_i zr, va_up (rs_n zr) 0 (rs_n zr 0 + 1), va_up (va_up (va_up (va_up (va_up (rs_I zr) 12 (upd (rs_I zr 12) (rs_n zr 0) x)) 13 (upd (rs_I zr 13) (rs_n zr 0) y)) 14 (upd (rs_I zr 14) (rs_n zr 0) xx)) 15 (upd (rs_I zr 15) (rs_n zr 0) yy)) 16 (upd (rs_I zr 16) (rs_n zr 0) tn), rs_L zr)) ∨
  (((0 ≤ x ∧ x ≤ 7) ∧ (0 ≤ y ∧ y ≤ 5)) ∧ ((0 ≤ xx ∧ xx ≤ 7) ∧ (0 ≤ yy ∧ yy ≤ 5)) ∧ (¬ xx < x) ∧ (¬ yy < y) ∧ (1 ≤ tn ∧ tn ≤ 100) ∧ ((nI (rs_n zr 0)) = 12) ∧ (∀ p, p < rs_n zr 0 → ¬ (x ≤ rs_I zr 14 p ∧ rs_I zr 12 p ≤ xx ∧ y ≤ rs_I zr 15 p ∧ rs_I zr 13 p ≤ yy)) ∧ r = ((-4)) ∧ u = zr) ∨
  (((0 ≤ x ∧ x ≤ 7) ∧ (0 ≤ y ∧ y ≤ 5)) ∧ ((0 ≤ xx ∧ xx ≤ 7) ∧ (0 ≤ yy ∧ yy ≤ 5)) ∧ (¬ xx < x) ∧ (¬ yy < y) ∧ (1 ≤ tn ∧ tn ≤ 100) ∧ ∃ i49 : Nat, (i49 < rs_n zr 0) ∧ (x ≤ rs_I zr 14 i49 ∧ rs_I zr 12 i49 ≤ xx ∧ y ≤ rs_I zr 15 i49 ∧ rs_I zr 13 i49 ≤ yy) ∧ r = ((-3)) ∧ u = zr) ∨
  (((0 ≤ x ∧ x ≤ 7) ∧ (0 ≤ y ∧ y ≤ 5)) ∧ ((0 ≤ xx ∧ xx ≤ 7) ∧ (0 ≤ yy ∧ yy ≤ 5)) ∧ (¬ xx < x) ∧ (¬ yy < y) ∧ (¬ (1 ≤ tn ∧ tn ≤ 100)) ∧ r = ((-2)) ∧ u = zr) ∨
  (((0 ≤ x ∧ x ≤ 7) ∧ (0 ≤ y ∧ y ≤ 5)) ∧ (¬ ((0 ≤ xx ∧ xx ≤ 7) ∧ (0 ≤ yy ∧ yy ≤ 5))) ∧ r = ((-1)) ∧ u = zr)
set_option maxHeartbeats 4000000 in
theorem lr_pitch_3 (qm : Nat) (cI cJ cZ : ClassId) (ad : Nat → Nat) (zr : RS2) (x : Int32) (y : Int32) (xx : Int32) (yy : Int32) (tn : Int32) (c2 : (0 ≤ x ∧ x ≤ 7) ∧ (0 ≤ y ∧ y ≤ 5)) (c4 : (0 ≤ xx ∧ xx ≤ 7) ∧ (0 ≤ yy ∧ yy ≤ 5)) (c5 : ¬ xx < x) (c6 : ¬ yy < y) (c8 : 1 ≤ tn ∧ tn ≤ 100) (c10 : ¬ (nI (rs_n zr 0)) = 12) (hp8 : rs_n zr 0 < 12) (hallN : ∀ p, p < rs_n zr 0 → ¬ (x ≤ rs_I zr 14 p ∧ rs_I zr 12 p ≤ xx ∧ y ≤ rs_I zr 15 p ∧ rs_I zr 13 p ≤ yy)) (hI : invR zr) : invR (rs_i zr, va_up (rs_n zr) 0 (rs_n zr 0 + 1), va_up (va_up (va_up (va_up (va_up (rs_I zr) 12 (upd (rs_I zr 12) (rs_n zr 0) x)) 13 (upd (rs_I zr 13) (rs_n zr 0) y)) 14 (upd (rs_I zr 14) (rs_n zr 0) xx)) 15 (upd (rs_I zr 15) (rs_n zr 0) yy)) 16 (upd (rs_I zr 16) (rs_n zr 0) tn), rs_L zr) ∧ rW qm cI cJ cZ ad (rs_i zr, va_up (rs_n zr) 0 (rs_n zr 0 + 1), va_up (va_up (va_up (va_up (va_up (rs_I zr) 12 (upd (rs_I zr 12) (rs_n zr 0) x)) 13 (upd (rs_I zr 13) (rs_n zr 0) y)) 14 (upd (rs_I zr 14) (rs_n zr 0) xx)) 15 (upd (rs_I zr 15) (rs_n zr 0) yy)) 16 (upd (rs_I zr 16) (rs_n zr 0) tn), rs_L zr) = [(qm, .inr (11, [.int (rs_i zr 0), .int (rs_i zr 1), .ref (ad 2), .ref (ad 3), .ref (ad 4), .ref (ad 5), .int (rs_i zr 6), .ref (ad 7), .ref (ad 8), .ref (ad 9), .ref (ad 10), .int (nI (rs_n zr 0 + 1)), .ref (ad 12), .ref (ad 13), .ref (ad 14), .ref (ad 15), .ref (ad 16), .int (nI (rs_n zr 1)), .ref (ad 18), .ref (ad 19), .int (rs_i zr 20), .int (rs_i zr 21), .int (rs_i zr 22), .int (rs_i zr 23), .int (nI (rs_n zr 2)), .ref (ad 25), .ref (ad 26), .ref (ad 27), .ref (ad 28), .ref (ad 29), .ref (ad 30), .ref (ad 31), .ref (ad 32), .ref (ad 33), .int (nI (rs_n zr 3)), .ref (ad 35), .ref (ad 36), .ref (ad 37), .int (rs_i zr 38)])), rcI cI ad zr 2 48, rcI cI ad zr 3 48, rcI cI ad zr 4 48, rcI cI ad zr 5 48, rcI cI ad zr 7 4, rcI cI ad zr 8 4, rcI cI ad zr 9 192, rcI cI ad zr 10 48, (ad 12, .inl (cI, 12, .inl (upd (rs_I zr 12) (rs_n zr 0) x))), (ad 13, .inl (cI, 12, .inl (upd (rs_I zr 13) (rs_n zr 0) y))), (ad 14, .inl (cI, 12, .inl (upd (rs_I zr 14) (rs_n zr 0) xx))), (ad 15, .inl (cI, 12, .inl (upd (rs_I zr 15) (rs_n zr 0) yy))), (ad 16, .inl (cI, 12, .inl (upd (rs_I zr 16) (rs_n zr 0) tn))), rcI cI ad zr 18 8, rcJ cJ ad zr 19 8, rcI cI ad zr 25 40, rcI cI ad zr 26 40, rcI cI ad zr 27 40, rcI cZ ad zr 28 40, rcJ cJ ad zr 29 40, rcJ cJ ad zr 30 40, rcJ cJ ad zr 31 40, rcJ cJ ad zr 32 40, rcJ cJ ad zr 33 40, rcI cI ad zr 35 80, rcI cI ad zr 36 80, rcI cI ad zr 37 80] := by
  obtain ⟨⟨hn0, hn1, hn2, hn3⟩, hfar, hlh, hss, hsold, htk, hpk⟩ := id hI
  exact ⟨(by refine ⟨⟨(show rs_n zr 0 + 1 ≤ 12 by omega), hn1, hn2, hn3⟩, hfar, hlh, hss, (hsold.imp id (fun q => ⟨q.1.imp (fun p z => ⟨Nat.lt_succ_of_lt z.1, z.2⟩), q.2⟩)), (fun t ht => ⟨(htk t ht).1, (htk t ht).2.imp (fun p z => ⟨Nat.lt_succ_of_lt z.1, z.2⟩)⟩), hpk⟩), by simp [rW, rcO, rcI, rcJ, rs_i, rs_n, rs_I, rs_L, va_up, upd]⟩
set_option maxHeartbeats 4000000 in
theorem lr_pitch_4 (qm : Nat) (cI cJ cZ : ClassId) (ad : Nat → Nat) (zr : RS2) (x : Int32) (y : Int32) (xx : Int32) (yy : Int32) (tn : Int32) (c2 : (0 ≤ x ∧ x ≤ 7) ∧ (0 ≤ y ∧ y ≤ 5)) (c4 : (0 ≤ xx ∧ xx ≤ 7) ∧ (0 ≤ yy ∧ yy ≤ 5)) (c5 : ¬ xx < x) (c6 : ¬ yy < y) (c8 : 1 ≤ tn ∧ tn ≤ 100) (c10 : (nI (rs_n zr 0)) = 12) (hallN : ∀ p, p < rs_n zr 0 → ¬ (x ≤ rs_I zr 14 p ∧ rs_I zr 12 p ≤ xx ∧ y ≤ rs_I zr 15 p ∧ rs_I zr 13 p ≤ yy)) (hI : invR zr) : invR zr ∧ rW qm cI cJ cZ ad zr = [rcO qm ad zr, rcI cI ad zr 2 48, rcI cI ad zr 3 48, rcI cI ad zr 4 48, rcI cI ad zr 5 48, rcI cI ad zr 7 4, rcI cI ad zr 8 4, rcI cI ad zr 9 192, rcI cI ad zr 10 48, rcI cI ad zr 12 12, rcI cI ad zr 13 12, rcI cI ad zr 14 12, rcI cI ad zr 15 12, rcI cI ad zr 16 12, rcI cI ad zr 18 8, rcJ cJ ad zr 19 8, rcI cI ad zr 25 40, rcI cI ad zr 26 40, rcI cI ad zr 27 40, rcI cZ ad zr 28 40, rcJ cJ ad zr 29 40, rcJ cJ ad zr 30 40, rcJ cJ ad zr 31 40, rcJ cJ ad zr 32 40, rcJ cJ ad zr 33 40, rcI cI ad zr 35 80, rcI cI ad zr 36 80, rcI cI ad zr 37 80] := by
  obtain ⟨⟨hn0, hn1, hn2, hn3⟩, hfar, hlh, hss, hsold, htk, hpk⟩ := id hI
  exact ⟨hI, by simp [rW, rcO, rcI, rcJ, rs_i, rs_n, rs_I, rs_L, va_up, upd]⟩
set_option maxHeartbeats 4000000 in
theorem lr_pitch_5 (qm : Nat) (cI cJ cZ : ClassId) (ad : Nat → Nat) (zr : RS2) (x : Int32) (y : Int32) (xx : Int32) (yy : Int32) (tn : Int32) (i49 : Nat) (c2 : (0 ≤ x ∧ x ≤ 7) ∧ (0 ≤ y ∧ y ≤ 5)) (c4 : (0 ≤ xx ∧ xx ≤ 7) ∧ (0 ≤ yy ∧ yy ≤ 5)) (c5 : ¬ xx < x) (c6 : ¬ yy < y) (c8 : 1 ≤ tn ∧ tn ≤ 100) (hlti49 : i49 < rs_n zr 0) (hI : invR zr) : invR zr ∧ rW qm cI cJ cZ ad zr = [rcO qm ad zr, rcI cI ad zr 2 48, rcI cI ad zr 3 48, rcI cI ad zr 4 48, rcI cI ad zr 5 48, rcI cI ad zr 7 4, rcI cI ad zr 8 4, rcI cI ad zr 9 192, rcI cI ad zr 10 48, rcI cI ad zr 12 12, rcI cI ad zr 13 12, rcI cI ad zr 14 12, rcI cI ad zr 15 12, rcI cI ad zr 16 12, rcI cI ad zr 18 8, rcJ cJ ad zr 19 8, rcI cI ad zr 25 40, rcI cI ad zr 26 40, rcI cI ad zr 27 40, rcI cZ ad zr 28 40, rcJ cJ ad zr 29 40, rcJ cJ ad zr 30 40, rcJ cJ ad zr 31 40, rcJ cJ ad zr 32 40, rcJ cJ ad zr 33 40, rcI cI ad zr 35 80, rcI cI ad zr 36 80, rcI cI ad zr 37 80] := by
  obtain ⟨⟨hn0, hn1, hn2, hn3⟩, hfar, hlh, hss, hsold, htk, hpk⟩ := id hI
  exact ⟨hI, by simp [rW, rcO, rcI, rcJ, rs_i, rs_n, rs_I, rs_L, va_up, upd]⟩
set_option maxHeartbeats 4000000 in
set_option maxRecDepth 100000 in
theorem M_pitch (l : Launch) (dC : Nat → ClassId) (dI : Nat → Nat → Nat) (cI cJ cZ : ClassId) (sz : Nat) (qm : Nat) (ad : Nat → Nat) (zr : RS2) (x : Int32) (y : Int32) (xx : Int32) (yy : Int32) (tn : Int32) (hI : invR zr) : Met l yX11_pitch wsX11_pitch ({ frames := 3, cells := 0, slots := 0, locals := 90 }) (pw (dC, dI) [(cI, .int), (cJ, .long), (cZ, .boolean)] (rW qm cI cJ cZ ad zr) sz [.ref qm, .int x, .int y, .int xx, .int yy, .int tn]) (va_Qi (fun r (u : RS2) => invR u ∧ pR_pitch zr x y xx yy tn r u) (fun u t => bw (dC, dI) [(cI, .int), (cJ, .long), (cZ, .boolean)] (va_A (rW qm cI cJ cZ ad zr) sz) (rW qm cI cJ cZ ad u) t) (va_A (rW qm cI cJ cZ ad zr) sz)) 0 0 (va_A (rW qm cI cJ cZ ad zr) sz) := by
  refine pw_met (cc := cX11_pitch) (maxL := 7) (ret := (some .int)) (by decide) rfl (Nat.le_of_ble_eq_true rfl) ?_
  intro p e s m below meth c0 hx hb hr hml hown hlocks hnm hts hP0 hK hD0 hN hsz hA hS ls hl
  subst hsz
  have hP : va_P (dC, dI) vwCl [rcO qm ad zr, rcI cI ad zr 2 48, rcI cI ad zr 3 48, rcI cI ad zr 4 48, rcI cI ad zr 5 48, rcI cI ad zr 7 4, rcI cI ad zr 8 4, rcI cI ad zr 9 192, rcI cI ad zr 10 48, rcI cI ad zr 12 12, rcI cI ad zr 13 12, rcI cI ad zr 14 12, rcI cI ad zr 15 12, rcI cI ad zr 16 12, rcI cI ad zr 18 8, rcJ cJ ad zr 19 8, rcI cI ad zr 25 40, rcI cI ad zr 26 40, rcI cI ad zr 27 40, rcI cZ ad zr 28 40, rcJ cJ ad zr 29 40, rcJ cJ ad zr 30 40, rcJ cJ ad zr 31 40, rcJ cJ ad zr 32 40, rcJ cJ ad zr 33 40, rcI cI ad zr 35 80, rcI cI ad zr 36 80, rcI cI ad zr 37 80] s.heap := hP0
  have hD : va_D (va_A (rW qm cI cJ cZ ad zr) s.heap.size) [rcO qm ad zr, rcI cI ad zr 2 48, rcI cI ad zr 3 48, rcI cI ad zr 4 48, rcI cI ad zr 5 48, rcI cI ad zr 7 4, rcI cI ad zr 8 4, rcI cI ad zr 9 192, rcI cI ad zr 10 48, rcI cI ad zr 12 12, rcI cI ad zr 13 12, rcI cI ad zr 14 12, rcI cI ad zr 15 12, rcI cI ad zr 16 12, rcI cI ad zr 18 8, rcJ cJ ad zr 19 8, rcI cI ad zr 25 40, rcI cI ad zr 26 40, rcI cI ad zr 27 40, rcI cZ ad zr 28 40, rcJ cJ ad zr 29 40, rcJ cJ ad zr 30 40, rcJ cJ ad zr 31 40, rcJ cJ ad zr 32 40, rcJ cJ ad zr 33 40, rcI cI ad zr 35 80, rcI cI ad zr 36 80, rcI cI ad zr 37 80] := hD0
  obtain ⟨⟨hn0, hn1, hn2, hn3⟩, hfar, hlh, hss, hsold, htk, hpk⟩ := id hI
  have hl : lv_has ls 7 [(0, .ref qm), (1, .int x), (2, .int y), (3, .int xx), (4, .int yy), (5, .int tn)] := hl
  have hiX11 : ∀ w ∈ wsX110, w ∈ wsX11_pitch := by decide +kernel
  generalize hQ : MQ _ _ _ _ _ _ _ = Q
  refine lv_iload_n hx hb dX11_pitch_0 rfl (lv_at hl 1 rfl) ?_
  refine lv_iload_n hx hb dX11_pitch_1 rfl (lv_at hl 2 rfl) ?_
  refine vp_callSi (va_Run.run (va_runS (As := [.int x, .int y]) (rest := []) ⟨hx, hb, hml, hown, hts⟩ (c_X11_isSquare l x y ) (va_cwS 2 hts gX11_pitch_X11_isSquare rfl rfl rfl (by decide +kernel) ⟨Nat.le_of_ble_eq_true rfl, Nat.le_of_ble_eq_true rfl⟩) (p0_preS hN) rfl rfl hl.1 rfl (lv_room (Nat.le_of_ble_eq_true rfl)) dX11_pitch_2 ⟨Nat.le_of_ble_eq_true rfl, Nat.le_of_ble_eq_true rfl⟩)) (fun r1 hr1 => ?_)
  have hr1 : r1 = if (0 ≤ x ∧ x ≤ 7) ∧ (0 ≤ y ∧ y ≤ 5) then 1 else 0 := hr1
  refine lv_if_eq (tgt := 17) hx hb dX11_pitch_5 (by decide) (fun c2 => ?_) (fun c2 => ?_)
  · skip
    have c2 := (fa_bool_prop hr1).1.mp c2
    refine lv_iconst (v := (-1)) hx hb dX11_pitch_17 (by decide) ?_
    subst hQ
    exact W.iret (v := (-1)) hx hb hr (fun t ht hW => ⟨⟨(-1), zr, rfl, ⟨hI, (Or.inl ⟨c2, rfl, rfl⟩)⟩, (by rw [ht]; exact hP0), va_K.moved hW.alike hK, hD0⟩, (by rw [ht]; exact Nat.le_refl _), fun q _ _ => by rw [ht]⟩) (fun q h => absurd h List.not_mem_nil) dX11_pitch_18
  · skip
    have c2 := (fa_bool_prop hr1).2.mp c2
    refine lv_iload_n hx hb dX11_pitch_8 rfl (lv_at hl 3 rfl) ?_
    refine lv_iload hx hb dX11_pitch_9 (lv_at hl 4 rfl) ?_
    refine vp_callSi (va_Run.run (va_runS (As := [.int xx, .int yy]) (rest := []) ⟨hx, hb, hml, hown, hts⟩ (c_X11_isSquare l xx yy ) (va_cwS 2 hts gX11_pitch_X11_isSquare rfl rfl rfl (by decide +kernel) ⟨Nat.le_of_ble_eq_true rfl, Nat.le_of_ble_eq_true rfl⟩) (p0_preS hN) rfl rfl hl.1 rfl (lv_room (Nat.le_of_ble_eq_true rfl)) dX11_pitch_11 ⟨Nat.le_of_ble_eq_true rfl, Nat.le_of_ble_eq_true rfl⟩)) (fun r3 hr3 => ?_)
    have hr3 : r3 = if (0 ≤ xx ∧ xx ≤ 7) ∧ (0 ≤ yy ∧ yy ≤ 5) then 1 else 0 := hr3
    refine lv_if_ne (tgt := 19) hx hb dX11_pitch_14 (by decide) (fun c4 => ?_) (fun c4 => ?_)
    · skip
      have c4 := (fa_bool_prop hr3).2.mp c4
      refine lv_iload_n hx hb dX11_pitch_19 rfl (lv_at hl 1 rfl) ?_
      refine lv_iload_n hx hb dX11_pitch_20 rfl (lv_at hl 3 rfl) ?_
      refine lv_icmp_gt (tgt := 43) hx hb dX11_pitch_21 (by decide) (fun c5 => ?_) (fun c5 => ?_)
      · skip
        refine lv_bipush (v := (-2)) hx hb dX11_pitch_43 (by decide) ?_
        subst hQ
        exact W.iret (v := (-2)) hx hb hr (fun t ht hW => ⟨⟨(-2), zr, rfl, ⟨hI, (Or.inr (Or.inl ⟨c2, c4, c5, rfl, rfl⟩))⟩, (by rw [ht]; exact hP0), va_K.moved hW.alike hK, hD0⟩, (by rw [ht]; exact Nat.le_refl _), fun q _ _ => by rw [ht]⟩) (fun q h => absurd h List.not_mem_nil) dX11_pitch_45
      · skip
        refine lv_iload_n hx hb dX11_pitch_24 rfl (lv_at hl 2 rfl) ?_
        refine lv_iload hx hb dX11_pitch_25 (lv_at hl 4 rfl) ?_
        refine lv_icmp_gt (tgt := 43) hx hb dX11_pitch_27 (by decide) (fun c6 => ?_) (fun c6 => ?_)
        · skip
          refine lv_bipush (v := (-2)) hx hb dX11_pitch_43 (by decide) ?_
          subst hQ
          exact W.iret (v := (-2)) hx hb hr (fun t ht hW => ⟨⟨(-2), zr, rfl, ⟨hI, (Or.inr (Or.inr (Or.inl ⟨c2, c4, c5, c6, rfl, rfl⟩)))⟩, (by rw [ht]; exact hP0), va_K.moved hW.alike hK, hD0⟩, (by rw [ht]; exact Nat.le_refl _), fun q _ _ => by rw [ht]⟩) (fun q h => absurd h List.not_mem_nil) dX11_pitch_45
        · skip
          refine lv_iload hx hb dX11_pitch_30 (lv_at hl 5 rfl) ?_
          refine lv_i2l (v := tn.toInt64) hx hb dX11_pitch_32 rfl ?_
          refine lv_lconst (v := 1) hx hb dX11_pitch_33 (by decide) ?_
          refine lv_ldc2 (v := 100) hx hb hown (hts (.constantLong RX11 173 (100)) (by decide +kernel)) dX11_pitch_34 ?_
          refine vp_callSi (va_Run.run (va_runS (As := [.long tn.toInt64, .long 1, .long 100]) (rest := []) ⟨hx, hb, hml, hown, hts⟩ (c_X11_in l tn.toInt64 1 100 ) (va_cwS 3 hts gX11_pitch_X11_in rfl rfl rfl (by decide +kernel) ⟨Nat.le_of_ble_eq_true rfl, Nat.le_of_ble_eq_true rfl⟩) (p0_preS hN) rfl rfl hl.1 rfl (lv_room (Nat.le_of_ble_eq_true rfl)) dX11_pitch_37 ⟨Nat.le_of_ble_eq_true rfl, Nat.le_of_ble_eq_true rfl⟩)) (fun r7 hr7 => ?_)
          have hr7 : r7 = if 1 ≤ tn.toInt64 ∧ tn.toInt64 ≤ 100 then 1 else 0 := hr7
          have hr7 := hr7.trans (in_w _ 1 100 (by decide) (by decide))
          refine lv_if_ne (tgt := 46) hx hb dX11_pitch_40 (by decide) (fun c8 => ?_) (fun c8 => ?_)
          · skip
            have c8 := (fa_bool_prop hr7).2.mp c8
            refine lv_iconst (v := 0) hx hb dX11_pitch_46 (by decide) ?_
            refine lv_istore (lv' := [(6, .int 0), (0, .ref qm), (1, .int x), (2, .int y), (3, .int xx), (4, .int yy), (5, .int tn)]) hx hb dX11_pitch_47 hl (by decide) rfl (fun ls hl => ?_)
            have loop49 : ∀ (ni49 i49 : Nat) (H : Heap) (locs : List Loc) (ls : Array Slot), i49 ≤ (rs_n zr 0) → (rs_n zr 0) + 1 ≤ i49 + ni49 → (∀ p, p < i49 → ¬ (x ≤ rs_I zr 14 p ∧ rs_I zr 12 p ≤ xx ∧ y ≤ rs_I zr 15 p ∧ rs_I zr 13 p ≤ yy)) → va_P (dC, dI) vwCl [rcO qm ad zr, rcI cI ad zr 2 48, rcI cI ad zr 3 48, rcI cI ad zr 4 48, rcI cI ad zr 5 48, rcI cI ad zr 7 4, rcI cI ad zr 8 4, rcI cI ad zr 9 192, rcI cI ad zr 10 48, rcI cI ad zr 12 12, rcI cI ad zr 13 12, rcI cI ad zr 14 12, rcI cI ad zr 15 12, rcI cI ad zr 16 12, rcI cI ad zr 18 8, rcJ cJ ad zr 19 8, rcI cI ad zr 25 40, rcI cI ad zr 26 40, rcI cI ad zr 27 40, rcI cZ ad zr 28 40, rcJ cJ ad zr 29 40, rcJ cJ ad zr 30 40, rcJ cJ ad zr 31 40, rcJ cJ ad zr 32 40, rcJ cJ ad zr 33 40, rcI cI ad zr 35 80, rcI cI ad zr 36 80, rcI cI ad zr 37 80] H → va_D (va_A [rcO qm ad zr, rcI cI ad zr 2 48, rcI cI ad zr 3 48, rcI cI ad zr 4 48, rcI cI ad zr 5 48, rcI cI ad zr 7 4, rcI cI ad zr 8 4, rcI cI ad zr 9 192, rcI cI ad zr 10 48, rcI cI ad zr 12 12, rcI cI ad zr 13 12, rcI cI ad zr 14 12, rcI cI ad zr 15 12, rcI cI ad zr 16 12, rcI cI ad zr 18 8, rcJ cJ ad zr 19 8, rcI cI ad zr 25 40, rcI cI ad zr 26 40, rcI cI ad zr 27 40, rcI cZ ad zr 28 40, rcJ cJ ad zr 29 40, rcJ cJ ad zr 30 40, rcJ cJ ad zr 31 40, rcJ cJ ad zr 32 40, rcJ cJ ad zr 33 40, rcI cI ad zr 35 80, rcI cI ad zr 36 80, rcI cI ad zr 37 80] s.heap.size) [rcO qm ad zr, rcI cI ad zr 2 48, rcI cI ad zr 3 48, rcI cI ad zr 4 48, rcI cI ad zr 5 48, rcI cI ad zr 7 4, rcI cI ad zr 8 4, rcI cI ad zr 9 192, rcI cI ad zr 10 48, rcI cI ad zr 12 12, rcI cI ad zr 13 12, rcI cI ad zr 14 12, rcI cI ad zr 15 12, rcI cI ad zr 16 12, rcI cI ad zr 18 8, rcJ cJ ad zr 19 8, rcI cI ad zr 25 40, rcI cI ad zr 26 40, rcI cI ad zr 27 40, rcI cZ ad zr 28 40, rcJ cJ ad zr 29 40, rcJ cJ ad zr 30 40, rcJ cJ ad zr 31 40, rcJ cJ ad zr 32 40, rcJ cJ ad zr 33 40, rcI cI ad zr 35 80, rcI cI ad zr 36 80, rcI cI ad zr 37 80] → va_S (va_A [rcO qm ad zr, rcI cI ad zr 2 48, rcI cI ad zr 3 48, rcI cI ad zr 4 48, rcI cI ad zr 5 48, rcI cI ad zr 7 4, rcI cI ad zr 8 4, rcI cI ad zr 9 192, rcI cI ad zr 10 48, rcI cI ad zr 12 12, rcI cI ad zr 13 12, rcI cI ad zr 14 12, rcI cI ad zr 15 12, rcI cI ad zr 16 12, rcI cI ad zr 18 8, rcJ cJ ad zr 19 8, rcI cI ad zr 25 40, rcI cI ad zr 26 40, rcI cI ad zr 27 40, rcI cZ ad zr 28 40, rcJ cJ ad zr 29 40, rcJ cJ ad zr 30 40, rcJ cJ ad zr 31 40, rcJ cJ ad zr 32 40, rcJ cJ ad zr 33 40, rcI cI ad zr 35 80, rcI cI ad zr 36 80, rcI cI ad zr 37 80] s.heap.size) s.heap H locs → lv_has ls 7 [(6, .int (nI i49)), (0, .ref qm), (1, .int x), (2, .int y), (3, .int xx), (4, .int yy), (5, .int tn)] → W p l e ({ frames := 3, cells := 0, slots := 0, locals := 90 } : Room) s m ([.ref qm, .int x, .int y, .int xx, .int yy, .int tn] : List Value).toArray below meth c0 H locs 0 0 Q (F0 m 49 ls []) := by
              intro ni49
              induction ni49 with
              | zero =>
                intro i49  H locs ls h1 h2
                exact absurd h2 (by omega)
              | succ ni49 ihi49 =>
                intro i49  H locs ls hlei49 hni49 hall hP hD hS hl
                refine lv_iload hx hb dX11_pitch_49 (lv_at hl 0 rfl) ?_
                refine lv_aload_n hx hb dX11_pitch_51 rfl (lv_at hl 1 rfl) ?_
                refine va_get (D := (dC, dI)) (ci := 11) (v := .int (nI (rs_n zr 0))) (C := RX11) (T := TX11) (N := 39) hx hb hts hiX11 hown hK hP 0 rfl rfl 11 (by decide) (hts (.fieldLink RX11 170 "TributePitchesModel" "pitches" "I") (by decide +kernel)) (fun _ h9 => h9) rfl dX11_pitch_52 ?_
                refine lv_icmp_ge (tgt := 112) hx hb dX11_pitch_55 (by decide) (fun c9 => ?_) (fun c9 => ?_)
                · skip
                  have hei49 : i49 = rs_n zr 0 := (by have q := (nI_leI (a := rs_n zr 0) (b := i49) (by omega) (by omega)).mp c9; omega)
                  have hallN : ∀ p, p < rs_n zr 0 → ¬ (x ≤ rs_I zr 14 p ∧ rs_I zr 12 p ≤ xx ∧ y ≤ rs_I zr 15 p ∧ rs_I zr 13 p ≤ yy) := (by rw [← hei49]; exact hall)
                  refine lv_aload_n hx hb dX11_pitch_112 rfl (lv_at hl 1 rfl) ?_
                  refine va_get (D := (dC, dI)) (ci := 11) (v := .int (nI (rs_n zr 0))) (C := RX11) (T := TX11) (N := 39) hx hb hts hiX11 hown hK hP 0 rfl rfl 11 (by decide) (hts (.fieldLink RX11 170 "TributePitchesModel" "pitches" "I") (by decide +kernel)) (fun _ h9 => h9) rfl dX11_pitch_113 ?_
                  refine lv_bipush (v := 12) hx hb dX11_pitch_116 (by decide) ?_
                  refine lv_icmp_ne (tgt := 124) hx hb dX11_pitch_118 (by decide) (fun c10 => ?_) (fun c10 => ?_)
                  · skip
                    have hp8 : rs_n zr 0 < 12 := (by have q : ¬ rs_n zr 0 = 12 := fun q => c10 (by rw [q]; rfl); omega)
                    refine lv_aload_n hx hb dX11_pitch_124 rfl (lv_at hl 1 rfl) ?_
                    refine va_get (D := (dC, dI)) (ci := 11) (v := .ref (ad 12)) (C := RX11) (T := TX11) (N := 39) hx hb hts hiX11 hown hK hP 0 rfl rfl 12 (by decide) (hts (.fieldLink RX11 34 "TributePitchesModel" "fromX" "[I") (by decide +kernel)) (fun _ h9 => h9) rfl dX11_pitch_125 ?_
                    refine lv_aload_n hx hb dX11_pitch_128 rfl (lv_at hl 1 rfl) ?_
                    refine va_get (D := (dC, dI)) (ci := 11) (v := .int (nI (rs_n zr 0))) (C := RX11) (T := TX11) (N := 39) hx hb hts hiX11 hown hK hP 0 rfl rfl 11 (by decide) (hts (.fieldLink RX11 170 "TributePitchesModel" "pitches" "I") (by decide +kernel)) (fun _ h9 => h9) rfl dX11_pitch_129 ?_
                    refine lv_iload_n hx hb dX11_pitch_132 rfl (lv_at hl 2 rfl) ?_
                    refine va_iast hx hb hK hP hD hS 9 0 rfl rfl (vp_in_nI (by omega) (by omega)) dX11_pitch_133 (fun H locs hP hD hS => ?_)
                    rw [nI_clamp (n := (rs_n zr 0)) (by omega)] at hP hD
                    have hP : va_P (dC, dI) vwCl [rcO qm ad zr, rcI cI ad zr 2 48, rcI cI ad zr 3 48, rcI cI ad zr 4 48, rcI cI ad zr 5 48, rcI cI ad zr 7 4, rcI cI ad zr 8 4, rcI cI ad zr 9 192, rcI cI ad zr 10 48, (ad 12, .inl (cI, 12, .inl (upd (rs_I zr 12) (rs_n zr 0) x))), rcI cI ad zr 13 12, rcI cI ad zr 14 12, rcI cI ad zr 15 12, rcI cI ad zr 16 12, rcI cI ad zr 18 8, rcJ cJ ad zr 19 8, rcI cI ad zr 25 40, rcI cI ad zr 26 40, rcI cI ad zr 27 40, rcI cZ ad zr 28 40, rcJ cJ ad zr 29 40, rcJ cJ ad zr 30 40, rcJ cJ ad zr 31 40, rcJ cJ ad zr 32 40, rcJ cJ ad zr 33 40, rcI cI ad zr 35 80, rcI cI ad zr 36 80, rcI cI ad zr 37 80] H := hP
                    have hD : va_D _ [rcO qm ad zr, rcI cI ad zr 2 48, rcI cI ad zr 3 48, rcI cI ad zr 4 48, rcI cI ad zr 5 48, rcI cI ad zr 7 4, rcI cI ad zr 8 4, rcI cI ad zr 9 192, rcI cI ad zr 10 48, (ad 12, .inl (cI, 12, .inl (upd (rs_I zr 12) (rs_n zr 0) x))), rcI cI ad zr 13 12, rcI cI ad zr 14 12, rcI cI ad zr 15 12, rcI cI ad zr 16 12, rcI cI ad zr 18 8, rcJ cJ ad zr 19 8, rcI cI ad zr 25 40, rcI cI ad zr 26 40, rcI cI ad zr 27 40, rcI cZ ad zr 28 40, rcJ cJ ad zr 29 40, rcJ cJ ad zr 30 40, rcJ cJ ad zr 31 40, rcJ cJ ad zr 32 40, rcJ cJ ad zr 33 40, rcI cI ad zr 35 80, rcI cI ad zr 36 80, rcI cI ad zr 37 80] := hD
                    refine lv_aload_n hx hb dX11_pitch_134 rfl (lv_at hl 1 rfl) ?_
                    refine va_get (D := (dC, dI)) (ci := 11) (v := .ref (ad 13)) (C := RX11) (T := TX11) (N := 39) hx hb hts hiX11 hown hK hP 0 rfl rfl 13 (by decide) (hts (.fieldLink RX11 37 "TributePitchesModel" "fromY" "[I") (by decide +kernel)) (fun _ h9 => h9) rfl dX11_pitch_135 ?_
                    refine lv_aload_n hx hb dX11_pitch_138 rfl (lv_at hl 1 rfl) ?_
                    refine va_get (D := (dC, dI)) (ci := 11) (v := .int (nI (rs_n zr 0))) (C := RX11) (T := TX11) (N := 39) hx hb hts hiX11 hown hK hP 0 rfl rfl 11 (by decide) (hts (.fieldLink RX11 170 "TributePitchesModel" "pitches" "I") (by decide +kernel)) (fun _ h9 => h9) rfl dX11_pitch_139 ?_
                    refine lv_iload_n hx hb dX11_pitch_142 rfl (lv_at hl 3 rfl) ?_
                    refine va_iast hx hb hK hP hD hS 10 0 rfl rfl (vp_in_nI (by omega) (by omega)) dX11_pitch_143 (fun H locs hP hD hS => ?_)
                    rw [nI_clamp (n := (rs_n zr 0)) (by omega)] at hP hD
                    have hP : va_P (dC, dI) vwCl [rcO qm ad zr, rcI cI ad zr 2 48, rcI cI ad zr 3 48, rcI cI ad zr 4 48, rcI cI ad zr 5 48, rcI cI ad zr 7 4, rcI cI ad zr 8 4, rcI cI ad zr 9 192, rcI cI ad zr 10 48, (ad 12, .inl (cI, 12, .inl (upd (rs_I zr 12) (rs_n zr 0) x))), (ad 13, .inl (cI, 12, .inl (upd (rs_I zr 13) (rs_n zr 0) y))), rcI cI ad zr 14 12, rcI cI ad zr 15 12, rcI cI ad zr 16 12, rcI cI ad zr 18 8, rcJ cJ ad zr 19 8, rcI cI ad zr 25 40, rcI cI ad zr 26 40, rcI cI ad zr 27 40, rcI cZ ad zr 28 40, rcJ cJ ad zr 29 40, rcJ cJ ad zr 30 40, rcJ cJ ad zr 31 40, rcJ cJ ad zr 32 40, rcJ cJ ad zr 33 40, rcI cI ad zr 35 80, rcI cI ad zr 36 80, rcI cI ad zr 37 80] H := hP
                    have hD : va_D _ [rcO qm ad zr, rcI cI ad zr 2 48, rcI cI ad zr 3 48, rcI cI ad zr 4 48, rcI cI ad zr 5 48, rcI cI ad zr 7 4, rcI cI ad zr 8 4, rcI cI ad zr 9 192, rcI cI ad zr 10 48, (ad 12, .inl (cI, 12, .inl (upd (rs_I zr 12) (rs_n zr 0) x))), (ad 13, .inl (cI, 12, .inl (upd (rs_I zr 13) (rs_n zr 0) y))), rcI cI ad zr 14 12, rcI cI ad zr 15 12, rcI cI ad zr 16 12, rcI cI ad zr 18 8, rcJ cJ ad zr 19 8, rcI cI ad zr 25 40, rcI cI ad zr 26 40, rcI cI ad zr 27 40, rcI cZ ad zr 28 40, rcJ cJ ad zr 29 40, rcJ cJ ad zr 30 40, rcJ cJ ad zr 31 40, rcJ cJ ad zr 32 40, rcJ cJ ad zr 33 40, rcI cI ad zr 35 80, rcI cI ad zr 36 80, rcI cI ad zr 37 80] := hD
                    refine lv_aload_n hx hb dX11_pitch_144 rfl (lv_at hl 1 rfl) ?_
                    refine va_get (D := (dC, dI)) (ci := 11) (v := .ref (ad 14)) (C := RX11) (T := TX11) (N := 39) hx hb hts hiX11 hown hK hP 0 rfl rfl 14 (by decide) (hts (.fieldLink RX11 40 "TributePitchesModel" "toX" "[I") (by decide +kernel)) (fun _ h9 => h9) rfl dX11_pitch_145 ?_
                    refine lv_aload_n hx hb dX11_pitch_148 rfl (lv_at hl 1 rfl) ?_
                    refine va_get (D := (dC, dI)) (ci := 11) (v := .int (nI (rs_n zr 0))) (C := RX11) (T := TX11) (N := 39) hx hb hts hiX11 hown hK hP 0 rfl rfl 11 (by decide) (hts (.fieldLink RX11 170 "TributePitchesModel" "pitches" "I") (by decide +kernel)) (fun _ h9 => h9) rfl dX11_pitch_149 ?_
                    refine lv_iload_n hx hb dX11_pitch_152 rfl (lv_at hl 4 rfl) ?_
                    refine va_iast hx hb hK hP hD hS 11 0 rfl rfl (vp_in_nI (by omega) (by omega)) dX11_pitch_153 (fun H locs hP hD hS => ?_)
                    rw [nI_clamp (n := (rs_n zr 0)) (by omega)] at hP hD
                    have hP : va_P (dC, dI) vwCl [rcO qm ad zr, rcI cI ad zr 2 48, rcI cI ad zr 3 48, rcI cI ad zr 4 48, rcI cI ad zr 5 48, rcI cI ad zr 7 4, rcI cI ad zr 8 4, rcI cI ad zr 9 192, rcI cI ad zr 10 48, (ad 12, .inl (cI, 12, .inl (upd (rs_I zr 12) (rs_n zr 0) x))), (ad 13, .inl (cI, 12, .inl (upd (rs_I zr 13) (rs_n zr 0) y))), (ad 14, .inl (cI, 12, .inl (upd (rs_I zr 14) (rs_n zr 0) xx))), rcI cI ad zr 15 12, rcI cI ad zr 16 12, rcI cI ad zr 18 8, rcJ cJ ad zr 19 8, rcI cI ad zr 25 40, rcI cI ad zr 26 40, rcI cI ad zr 27 40, rcI cZ ad zr 28 40, rcJ cJ ad zr 29 40, rcJ cJ ad zr 30 40, rcJ cJ ad zr 31 40, rcJ cJ ad zr 32 40, rcJ cJ ad zr 33 40, rcI cI ad zr 35 80, rcI cI ad zr 36 80, rcI cI ad zr 37 80] H := hP
                    have hD : va_D _ [rcO qm ad zr, rcI cI ad zr 2 48, rcI cI ad zr 3 48, rcI cI ad zr 4 48, rcI cI ad zr 5 48, rcI cI ad zr 7 4, rcI cI ad zr 8 4, rcI cI ad zr 9 192, rcI cI ad zr 10 48, (ad 12, .inl (cI, 12, .inl (upd (rs_I zr 12) (rs_n zr 0) x))), (ad 13, .inl (cI, 12, .inl (upd (rs_I zr 13) (rs_n zr 0) y))), (ad 14, .inl (cI, 12, .inl (upd (rs_I zr 14) (rs_n zr 0) xx))), rcI cI ad zr 15 12, rcI cI ad zr 16 12, rcI cI ad zr 18 8, rcJ cJ ad zr 19 8, rcI cI ad zr 25 40, rcI cI ad zr 26 40, rcI cI ad zr 27 40, rcI cZ ad zr 28 40, rcJ cJ ad zr 29 40, rcJ cJ ad zr 30 40, rcJ cJ ad zr 31 40, rcJ cJ ad zr 32 40, rcJ cJ ad zr 33 40, rcI cI ad zr 35 80, rcI cI ad zr 36 80, rcI cI ad zr 37 80] := hD
                    refine lv_aload_n hx hb dX11_pitch_154 rfl (lv_at hl 1 rfl) ?_
                    refine va_get (D := (dC, dI)) (ci := 11) (v := .ref (ad 15)) (C := RX11) (T := TX11) (N := 39) hx hb hts hiX11 hown hK hP 0 rfl rfl 15 (by decide) (hts (.fieldLink RX11 43 "TributePitchesModel" "toY" "[I") (by decide +kernel)) (fun _ h9 => h9) rfl dX11_pitch_155 ?_
                    refine lv_aload_n hx hb dX11_pitch_158 rfl (lv_at hl 1 rfl) ?_
                    refine va_get (D := (dC, dI)) (ci := 11) (v := .int (nI (rs_n zr 0))) (C := RX11) (T := TX11) (N := 39) hx hb hts hiX11 hown hK hP 0 rfl rfl 11 (by decide) (hts (.fieldLink RX11 170 "TributePitchesModel" "pitches" "I") (by decide +kernel)) (fun _ h9 => h9) rfl dX11_pitch_159 ?_
                    refine lv_iload hx hb dX11_pitch_162 (lv_at hl 5 rfl) ?_
                    refine va_iast hx hb hK hP hD hS 12 0 rfl rfl (vp_in_nI (by omega) (by omega)) dX11_pitch_164 (fun H locs hP hD hS => ?_)
                    rw [nI_clamp (n := (rs_n zr 0)) (by omega)] at hP hD
                    have hP : va_P (dC, dI) vwCl [rcO qm ad zr, rcI cI ad zr 2 48, rcI cI ad zr 3 48, rcI cI ad zr 4 48, rcI cI ad zr 5 48, rcI cI ad zr 7 4, rcI cI ad zr 8 4, rcI cI ad zr 9 192, rcI cI ad zr 10 48, (ad 12, .inl (cI, 12, .inl (upd (rs_I zr 12) (rs_n zr 0) x))), (ad 13, .inl (cI, 12, .inl (upd (rs_I zr 13) (rs_n zr 0) y))), (ad 14, .inl (cI, 12, .inl (upd (rs_I zr 14) (rs_n zr 0) xx))), (ad 15, .inl (cI, 12, .inl (upd (rs_I zr 15) (rs_n zr 0) yy))), rcI cI ad zr 16 12, rcI cI ad zr 18 8, rcJ cJ ad zr 19 8, rcI cI ad zr 25 40, rcI cI ad zr 26 40, rcI cI ad zr 27 40, rcI cZ ad zr 28 40, rcJ cJ ad zr 29 40, rcJ cJ ad zr 30 40, rcJ cJ ad zr 31 40, rcJ cJ ad zr 32 40, rcJ cJ ad zr 33 40, rcI cI ad zr 35 80, rcI cI ad zr 36 80, rcI cI ad zr 37 80] H := hP
                    have hD : va_D _ [rcO qm ad zr, rcI cI ad zr 2 48, rcI cI ad zr 3 48, rcI cI ad zr 4 48, rcI cI ad zr 5 48, rcI cI ad zr 7 4, rcI cI ad zr 8 4, rcI cI ad zr 9 192, rcI cI ad zr 10 48, (ad 12, .inl (cI, 12, .inl (upd (rs_I zr 12) (rs_n zr 0) x))), (ad 13, .inl (cI, 12, .inl (upd (rs_I zr 13) (rs_n zr 0) y))), (ad 14, .inl (cI, 12, .inl (upd (rs_I zr 14) (rs_n zr 0) xx))), (ad 15, .inl (cI, 12, .inl (upd (rs_I zr 15) (rs_n zr 0) yy))), rcI cI ad zr 16 12, rcI cI ad zr 18 8, rcJ cJ ad zr 19 8, rcI cI ad zr 25 40, rcI cI ad zr 26 40, rcI cI ad zr 27 40, rcI cZ ad zr 28 40, rcJ cJ ad zr 29 40, rcJ cJ ad zr 30 40, rcJ cJ ad zr 31 40, rcJ cJ ad zr 32 40, rcJ cJ ad zr 33 40, rcI cI ad zr 35 80, rcI cI ad zr 36 80, rcI cI ad zr 37 80] := hD
                    refine lv_aload_n hx hb dX11_pitch_165 rfl (lv_at hl 1 rfl) ?_
                    refine va_get (D := (dC, dI)) (ci := 11) (v := .ref (ad 16)) (C := RX11) (T := TX11) (N := 39) hx hb hts hiX11 hown hK hP 0 rfl rfl 16 (by decide) (hts (.fieldLink RX11 46 "TributePitchesModel" "tonsOf" "[I") (by decide +kernel)) (fun _ h9 => h9) rfl dX11_pitch_166 ?_
                    refine lv_aload_n hx hb dX11_pitch_169 rfl (lv_at hl 1 rfl) ?_
                    refine va_get (D := (dC, dI)) (ci := 11) (v := .int (nI (rs_n zr 0))) (C := RX11) (T := TX11) (N := 39) hx hb hts hiX11 hown hK hP 0 rfl rfl 11 (by decide) (hts (.fieldLink RX11 170 "TributePitchesModel" "pitches" "I") (by decide +kernel)) (fun _ h9 => h9) rfl dX11_pitch_170 ?_
                    refine lv_iload hx hb dX11_pitch_173 (lv_at hl 6 rfl) ?_
                    refine va_iast hx hb hK hP hD hS 13 0 rfl rfl (vp_in_nI (by omega) (by omega)) dX11_pitch_175 (fun H locs hP hD hS => ?_)
                    rw [nI_clamp (n := (rs_n zr 0)) (by omega)] at hP hD
                    have hP : va_P (dC, dI) vwCl [rcO qm ad zr, rcI cI ad zr 2 48, rcI cI ad zr 3 48, rcI cI ad zr 4 48, rcI cI ad zr 5 48, rcI cI ad zr 7 4, rcI cI ad zr 8 4, rcI cI ad zr 9 192, rcI cI ad zr 10 48, (ad 12, .inl (cI, 12, .inl (upd (rs_I zr 12) (rs_n zr 0) x))), (ad 13, .inl (cI, 12, .inl (upd (rs_I zr 13) (rs_n zr 0) y))), (ad 14, .inl (cI, 12, .inl (upd (rs_I zr 14) (rs_n zr 0) xx))), (ad 15, .inl (cI, 12, .inl (upd (rs_I zr 15) (rs_n zr 0) yy))), (ad 16, .inl (cI, 12, .inl (upd (rs_I zr 16) (rs_n zr 0) tn))), rcI cI ad zr 18 8, rcJ cJ ad zr 19 8, rcI cI ad zr 25 40, rcI cI ad zr 26 40, rcI cI ad zr 27 40, rcI cZ ad zr 28 40, rcJ cJ ad zr 29 40, rcJ cJ ad zr 30 40, rcJ cJ ad zr 31 40, rcJ cJ ad zr 32 40, rcJ cJ ad zr 33 40, rcI cI ad zr 35 80, rcI cI ad zr 36 80, rcI cI ad zr 37 80] H := hP
                    have hD : va_D _ [rcO qm ad zr, rcI cI ad zr 2 48, rcI cI ad zr 3 48, rcI cI ad zr 4 48, rcI cI ad zr 5 48, rcI cI ad zr 7 4, rcI cI ad zr 8 4, rcI cI ad zr 9 192, rcI cI ad zr 10 48, (ad 12, .inl (cI, 12, .inl (upd (rs_I zr 12) (rs_n zr 0) x))), (ad 13, .inl (cI, 12, .inl (upd (rs_I zr 13) (rs_n zr 0) y))), (ad 14, .inl (cI, 12, .inl (upd (rs_I zr 14) (rs_n zr 0) xx))), (ad 15, .inl (cI, 12, .inl (upd (rs_I zr 15) (rs_n zr 0) yy))), (ad 16, .inl (cI, 12, .inl (upd (rs_I zr 16) (rs_n zr 0) tn))), rcI cI ad zr 18 8, rcJ cJ ad zr 19 8, rcI cI ad zr 25 40, rcI cI ad zr 26 40, rcI cI ad zr 27 40, rcI cZ ad zr 28 40, rcJ cJ ad zr 29 40, rcJ cJ ad zr 30 40, rcJ cJ ad zr 31 40, rcJ cJ ad zr 32 40, rcJ cJ ad zr 33 40, rcI cI ad zr 35 80, rcI cI ad zr 36 80, rcI cI ad zr 37 80] := hD
                    refine lv_aload_n hx hb dX11_pitch_176 rfl (lv_at hl 1 rfl) ?_
                    refine lv_dup hx hb dX11_pitch_177 rfl ?_
                    refine va_get (D := (dC, dI)) (ci := 11) (v := .int (nI (rs_n zr 0))) (C := RX11) (T := TX11) (N := 39) hx hb hts hiX11 hown hK hP 0 rfl rfl 11 (by decide) (hts (.fieldLink RX11 170 "TributePitchesModel" "pitches" "I") (by decide +kernel)) (fun _ h9 => h9) rfl dX11_pitch_178 ?_
                    refine lv_iconst (v := 1) hx hb dX11_pitch_181 (by decide) ?_
                    refine lv_iadd hx hb dX11_pitch_182 ?_
                    refine lv_topi (fun vq evq => ?_)
                    have evq : vq = nI (rs_n zr 0 + 1) := by rw [evq]; exact nI_1 _
                    subst evq
                    refine va_put (D := (dC, dI)) (ci := 11) (v := .int (nI (rs_n zr 0 + 1))) (ty := .int) (C := RX11) (T := TX11) (N := 39) hx hb hts hiX11 tyX11 tyX11_ok nmX11 hown hK hP hD hS 0 rfl rfl 11 (by decide) (hts (.fieldLink RX11 170 "TributePitchesModel" "pitches" "I") (by decide +kernel)) (fun _ h9 => h9) rfl (by decide +kernel) rfl rfl (Nat.le_of_ble_eq_true rfl) dX11_pitch_183 (fun H locs hP hD hS => ?_)
                    have hP : va_P (dC, dI) vwCl [(qm, .inr (11, [.int (rs_i zr 0), .int (rs_i zr 1), .ref (ad 2), .ref (ad 3), .ref (ad 4), .ref (ad 5), .int (rs_i zr 6), .ref (ad 7), .ref (ad 8), .ref (ad 9), .ref (ad 10), .int (nI (rs_n zr 0 + 1)), .ref (ad 12), .ref (ad 13), .ref (ad 14), .ref (ad 15), .ref (ad 16), .int (nI (rs_n zr 1)), .ref (ad 18), .ref (ad 19), .int (rs_i zr 20), .int (rs_i zr 21), .int (rs_i zr 22), .int (rs_i zr 23), .int (nI (rs_n zr 2)), .ref (ad 25), .ref (ad 26), .ref (ad 27), .ref (ad 28), .ref (ad 29), .ref (ad 30), .ref (ad 31), .ref (ad 32), .ref (ad 33), .int (nI (rs_n zr 3)), .ref (ad 35), .ref (ad 36), .ref (ad 37), .int (rs_i zr 38)])), rcI cI ad zr 2 48, rcI cI ad zr 3 48, rcI cI ad zr 4 48, rcI cI ad zr 5 48, rcI cI ad zr 7 4, rcI cI ad zr 8 4, rcI cI ad zr 9 192, rcI cI ad zr 10 48, (ad 12, .inl (cI, 12, .inl (upd (rs_I zr 12) (rs_n zr 0) x))), (ad 13, .inl (cI, 12, .inl (upd (rs_I zr 13) (rs_n zr 0) y))), (ad 14, .inl (cI, 12, .inl (upd (rs_I zr 14) (rs_n zr 0) xx))), (ad 15, .inl (cI, 12, .inl (upd (rs_I zr 15) (rs_n zr 0) yy))), (ad 16, .inl (cI, 12, .inl (upd (rs_I zr 16) (rs_n zr 0) tn))), rcI cI ad zr 18 8, rcJ cJ ad zr 19 8, rcI cI ad zr 25 40, rcI cI ad zr 26 40, rcI cI ad zr 27 40, rcI cZ ad zr 28 40, rcJ cJ ad zr 29 40, rcJ cJ ad zr 30 40, rcJ cJ ad zr 31 40, rcJ cJ ad zr 32 40, rcJ cJ ad zr 33 40, rcI cI ad zr 35 80, rcI cI ad zr 36 80, rcI cI ad zr 37 80] H := hP
                    have hD : va_D _ [(qm, .inr (11, [.int (rs_i zr 0), .int (rs_i zr 1), .ref (ad 2), .ref (ad 3), .ref (ad 4), .ref (ad 5), .int (rs_i zr 6), .ref (ad 7), .ref (ad 8), .ref (ad 9), .ref (ad 10), .int (nI (rs_n zr 0 + 1)), .ref (ad 12), .ref (ad 13), .ref (ad 14), .ref (ad 15), .ref (ad 16), .int (nI (rs_n zr 1)), .ref (ad 18), .ref (ad 19), .int (rs_i zr 20), .int (rs_i zr 21), .int (rs_i zr 22), .int (rs_i zr 23), .int (nI (rs_n zr 2)), .ref (ad 25), .ref (ad 26), .ref (ad 27), .ref (ad 28), .ref (ad 29), .ref (ad 30), .ref (ad 31), .ref (ad 32), .ref (ad 33), .int (nI (rs_n zr 3)), .ref (ad 35), .ref (ad 36), .ref (ad 37), .int (rs_i zr 38)])), rcI cI ad zr 2 48, rcI cI ad zr 3 48, rcI cI ad zr 4 48, rcI cI ad zr 5 48, rcI cI ad zr 7 4, rcI cI ad zr 8 4, rcI cI ad zr 9 192, rcI cI ad zr 10 48, (ad 12, .inl (cI, 12, .inl (upd (rs_I zr 12) (rs_n zr 0) x))), (ad 13, .inl (cI, 12, .inl (upd (rs_I zr 13) (rs_n zr 0) y))), (ad 14, .inl (cI, 12, .inl (upd (rs_I zr 14) (rs_n zr 0) xx))), (ad 15, .inl (cI, 12, .inl (upd (rs_I zr 15) (rs_n zr 0) yy))), (ad 16, .inl (cI, 12, .inl (upd (rs_I zr 16) (rs_n zr 0) tn))), rcI cI ad zr 18 8, rcJ cJ ad zr 19 8, rcI cI ad zr 25 40, rcI cI ad zr 26 40, rcI cI ad zr 27 40, rcI cZ ad zr 28 40, rcJ cJ ad zr 29 40, rcJ cJ ad zr 30 40, rcJ cJ ad zr 31 40, rcJ cJ ad zr 32 40, rcJ cJ ad zr 33 40, rcI cI ad zr 35 80, rcI cI ad zr 36 80, rcI cI ad zr 37 80] := hD
                    refine lv_aload_n hx hb dX11_pitch_186 rfl (lv_at hl 1 rfl) ?_
                    refine va_get (D := (dC, dI)) (ci := 11) (v := .int (nI (rs_n zr 0 + 1))) (C := RX11) (T := TX11) (N := 39) hx hb hts hiX11 hown hK hP 0 rfl rfl 11 (by decide) (hts (.fieldLink RX11 170 "TributePitchesModel" "pitches" "I") (by decide +kernel)) (fun _ h9 => h9) rfl dX11_pitch_187 ?_
                    refine lv_iconst (v := 1) hx hb dX11_pitch_190 (by decide) ?_
                    refine lv_isub hx hb dX11_pitch_191 ?_
                    refine lv_topi (fun vw evw => ?_)
                    have evw : vw = nI (rs_n zr 0) := by rw [evw]; exact nI_pred _
                    subst evw
                    subst hQ
                    have hlf := lr_pitch_3 qm cI cJ cZ ad zr x y xx yy tn c2 c4 c5 c6 c8 c10 hp8 hallN hI
                    have hP9 : va_P (dC, dI) vwCl (rW qm cI cJ cZ ad (rs_i zr, va_up (rs_n zr) 0 (rs_n zr 0 + 1), va_up (va_up (va_up (va_up (va_up (rs_I zr) 12 (upd (rs_I zr 12) (rs_n zr 0) x)) 13 (upd (rs_I zr 13) (rs_n zr 0) y)) 14 (upd (rs_I zr 14) (rs_n zr 0) xx)) 15 (upd (rs_I zr 15) (rs_n zr 0) yy)) 16 (upd (rs_I zr 16) (rs_n zr 0) tn), rs_L zr)) H := by rw [hlf.2]; exact hP.sub [0, 1, 2, 3, 4, 5, 6, 7, 8, 9, 10, 11, 12, 13, 14, 15, 16, 17, 18, 19, 20, 21, 22, 23, 24, 25, 26, 27] rfl
                    have hD9 : va_D (va_A (rW qm cI cJ cZ ad zr) s.heap.size) (rW qm cI cJ cZ ad (rs_i zr, va_up (rs_n zr) 0 (rs_n zr 0 + 1), va_up (va_up (va_up (va_up (va_up (rs_I zr) 12 (upd (rs_I zr 12) (rs_n zr 0) x)) 13 (upd (rs_I zr 13) (rs_n zr 0) y)) 14 (upd (rs_I zr 14) (rs_n zr 0) xx)) 15 (upd (rs_I zr 15) (rs_n zr 0) yy)) 16 (upd (rs_I zr 16) (rs_n zr 0) tn), rs_L zr)) := by rw [hlf.2]; exact hD.sub [0, 1, 2, 3, 4, 5, 6, 7, 8, 9, 10, 11, 12, 13, 14, 15, 16, 17, 18, 19, 20, 21, 22, 23, 24, 25, 26, 27] (by decide) rfl
                    exact W.iret (v := nI (rs_n zr 0)) hx hb hr (fun t ht hW => ⟨⟨nI (rs_n zr 0), (rs_i zr, va_up (rs_n zr) 0 (rs_n zr 0 + 1), va_up (va_up (va_up (va_up (va_up (rs_I zr) 12 (upd (rs_I zr 12) (rs_n zr 0) x)) 13 (upd (rs_I zr 13) (rs_n zr 0) y)) 14 (upd (rs_I zr 14) (rs_n zr 0) xx)) 15 (upd (rs_I zr 15) (rs_n zr 0) yy)) 16 (upd (rs_I zr 16) (rs_n zr 0) tn), rs_L zr), rfl, ⟨hlf.1, (Or.inr (Or.inr (Or.inr (Or.inl ⟨c2, c4, c5, c6, c8, c10, hp8, hallN, rfl, rfl⟩))))⟩, by rw [ht]; exact hP9, va_K.moved hW.alike hK, hD9⟩, hS.F ht⟩) hS.2.2 dX11_pitch_192
                  · skip
                    refine lv_bipush (v := (-4)) hx hb dX11_pitch_121 (by decide) ?_
                    subst hQ
                    have hlf := lr_pitch_4 qm cI cJ cZ ad zr x y xx yy tn c2 c4 c5 c6 c8 c10 hallN hI
                    have hP9 : va_P (dC, dI) vwCl (rW qm cI cJ cZ ad zr) H := by rw [hlf.2]; exact hP.sub [0, 1, 2, 3, 4, 5, 6, 7, 8, 9, 10, 11, 12, 13, 14, 15, 16, 17, 18, 19, 20, 21, 22, 23, 24, 25, 26, 27] rfl
                    have hD9 : va_D (va_A (rW qm cI cJ cZ ad zr) s.heap.size) (rW qm cI cJ cZ ad zr) := by rw [hlf.2]; exact hD.sub [0, 1, 2, 3, 4, 5, 6, 7, 8, 9, 10, 11, 12, 13, 14, 15, 16, 17, 18, 19, 20, 21, 22, 23, 24, 25, 26, 27] (by decide) rfl
                    exact W.iret (v := (-4)) hx hb hr (fun t ht hW => ⟨⟨(-4), zr, rfl, ⟨hlf.1, (Or.inr (Or.inr (Or.inr (Or.inr (Or.inl ⟨c2, c4, c5, c6, c8, c10, hallN, rfl, rfl⟩)))))⟩, by rw [ht]; exact hP9, va_K.moved hW.alike hK, hD9⟩, hS.F ht⟩) hS.2.2 dX11_pitch_123
                · skip
                  have hlti49 : i49 < rs_n zr 0 := (Nat.lt_or_ge i49 (rs_n zr 0)).elim id (fun q => absurd (nI_le q (by omega)) c9)
                  refine lv_iload_n hx hb dX11_pitch_58 rfl (lv_at hl 2 rfl) ?_
                  refine lv_aload_n hx hb dX11_pitch_59 rfl (lv_at hl 1 rfl) ?_
                  refine va_get (D := (dC, dI)) (ci := 11) (v := .ref (ad 14)) (C := RX11) (T := TX11) (N := 39) hx hb hts hiX11 hown hK hP 0 rfl rfl 14 (by decide) (hts (.fieldLink RX11 40 "TributePitchesModel" "toX" "[I") (by decide +kernel)) (fun _ h9 => h9) rfl dX11_pitch_60 ?_
                  refine lv_iload hx hb dX11_pitch_63 (lv_at hl 0 rfl) ?_
                  refine va_iald hx hb hK hP 11 0 rfl rfl (vp_in_nI (by omega) (by omega)) dX11_pitch_65 ?_
                  refine lv_topi (fun v11 ev11 => ?_)
                  have ev11 : v11 = (rs_I zr 14) i49 := by rw [ev11]; rw [nI_clamp (by omega)]
                  subst ev11
                  refine lv_icmp_gt (tgt := 106) hx hb dX11_pitch_66 (by decide) (fun c12 => ?_) (fun c12 => ?_)
                  · skip
                    refine lv_iinc (v := nI (i49 + 1)) (lv' := [(6, .int (nI (i49 + 1))), (0, .ref qm), (1, .int x), (2, .int y), (3, .int xx), (4, .int yy), (5, .int tn)]) hx hb dX11_pitch_106 hl (k := 0) rfl (nI_1 i49) (by decide) rfl (fun ls hl => ?_)
                    refine lv_goto (tgt := 49) hx hb dX11_pitch_109 (by decide) ?_
                    exact ihi49 (i49 + 1)  _ _ ls (by omega) (by omega) (fun p hp => (Nat.lt_or_ge p i49).elim (fun q => hall p q) (fun z => by have e9 : p = i49 := (by omega); rw [e9]; exact fun q => absurd q.1 (Int32.not_le.mpr c12))) (hP.sub [0, 1, 2, 3, 4, 5, 6, 7, 8, 9, 10, 11, 12, 13, 14, 15, 16, 17, 18, 19, 20, 21, 22, 23, 24, 25, 26, 27] rfl) (hD.sub [0, 1, 2, 3, 4, 5, 6, 7, 8, 9, 10, 11, 12, 13, 14, 15, 16, 17, 18, 19, 20, 21, 22, 23, 24, 25, 26, 27] (by decide) rfl) hS (lv_sub hl [0, 1, 2, 3, 4, 5, 6] rfl)
                  · skip
                    refine lv_iload_n hx hb dX11_pitch_69 rfl (lv_at hl 4 rfl) ?_
                    refine lv_aload_n hx hb dX11_pitch_70 rfl (lv_at hl 1 rfl) ?_
                    refine va_get (D := (dC, dI)) (ci := 11) (v := .ref (ad 12)) (C := RX11) (T := TX11) (N := 39) hx hb hts hiX11 hown hK hP 0 rfl rfl 12 (by decide) (hts (.fieldLink RX11 34 "TributePitchesModel" "fromX" "[I") (by decide +kernel)) (fun _ h9 => h9) rfl dX11_pitch_71 ?_
                    refine lv_iload hx hb dX11_pitch_74 (lv_at hl 0 rfl) ?_
                    refine va_iald hx hb hK hP 9 0 rfl rfl (vp_in_nI (by omega) (by omega)) dX11_pitch_76 ?_
                    refine lv_topi (fun v13 ev13 => ?_)
                    have ev13 : v13 = (rs_I zr 12) i49 := by rw [ev13]; rw [nI_clamp (by omega)]
                    subst ev13
                    refine lv_icmp_lt (tgt := 106) hx hb dX11_pitch_77 (by decide) (fun c14 => ?_) (fun c14 => ?_)
                    · skip
                      refine lv_iinc (v := nI (i49 + 1)) (lv' := [(6, .int (nI (i49 + 1))), (0, .ref qm), (1, .int x), (2, .int y), (3, .int xx), (4, .int yy), (5, .int tn)]) hx hb dX11_pitch_106 hl (k := 0) rfl (nI_1 i49) (by decide) rfl (fun ls hl => ?_)
                      refine lv_goto (tgt := 49) hx hb dX11_pitch_109 (by decide) ?_
                      exact ihi49 (i49 + 1)  _ _ ls (by omega) (by omega) (fun p hp => (Nat.lt_or_ge p i49).elim (fun q => hall p q) (fun z => by have e9 : p = i49 := (by omega); rw [e9]; exact fun q => absurd q.2.1 (Int32.not_le.mpr c14))) (hP.sub [0, 1, 2, 3, 4, 5, 6, 7, 8, 9, 10, 11, 12, 13, 14, 15, 16, 17, 18, 19, 20, 21, 22, 23, 24, 25, 26, 27] rfl) (hD.sub [0, 1, 2, 3, 4, 5, 6, 7, 8, 9, 10, 11, 12, 13, 14, 15, 16, 17, 18, 19, 20, 21, 22, 23, 24, 25, 26, 27] (by decide) rfl) hS (lv_sub hl [0, 1, 2, 3, 4, 5, 6] rfl)
                    · skip
                      refine lv_iload_n hx hb dX11_pitch_80 rfl (lv_at hl 3 rfl) ?_
                      refine lv_aload_n hx hb dX11_pitch_81 rfl (lv_at hl 1 rfl) ?_
                      refine va_get (D := (dC, dI)) (ci := 11) (v := .ref (ad 15)) (C := RX11) (T := TX11) (N := 39) hx hb hts hiX11 hown hK hP 0 rfl rfl 15 (by decide) (hts (.fieldLink RX11 43 "TributePitchesModel" "toY" "[I") (by decide +kernel)) (fun _ h9 => h9) rfl dX11_pitch_82 ?_
                      refine lv_iload hx hb dX11_pitch_85 (lv_at hl 0 rfl) ?_
                      refine va_iald hx hb hK hP 12 0 rfl rfl (vp_in_nI (by omega) (by omega)) dX11_pitch_87 ?_
                      refine lv_topi (fun v15 ev15 => ?_)
                      have ev15 : v15 = (rs_I zr 15) i49 := by rw [ev15]; rw [nI_clamp (by omega)]
                      subst ev15
                      refine lv_icmp_gt (tgt := 106) hx hb dX11_pitch_88 (by decide) (fun c16 => ?_) (fun c16 => ?_)
                      · skip
                        refine lv_iinc (v := nI (i49 + 1)) (lv' := [(6, .int (nI (i49 + 1))), (0, .ref qm), (1, .int x), (2, .int y), (3, .int xx), (4, .int yy), (5, .int tn)]) hx hb dX11_pitch_106 hl (k := 0) rfl (nI_1 i49) (by decide) rfl (fun ls hl => ?_)
                        refine lv_goto (tgt := 49) hx hb dX11_pitch_109 (by decide) ?_
                        exact ihi49 (i49 + 1)  _ _ ls (by omega) (by omega) (fun p hp => (Nat.lt_or_ge p i49).elim (fun q => hall p q) (fun z => by have e9 : p = i49 := (by omega); rw [e9]; exact fun q => absurd q.2.2.1 (Int32.not_le.mpr c16))) (hP.sub [0, 1, 2, 3, 4, 5, 6, 7, 8, 9, 10, 11, 12, 13, 14, 15, 16, 17, 18, 19, 20, 21, 22, 23, 24, 25, 26, 27] rfl) (hD.sub [0, 1, 2, 3, 4, 5, 6, 7, 8, 9, 10, 11, 12, 13, 14, 15, 16, 17, 18, 19, 20, 21, 22, 23, 24, 25, 26, 27] (by decide) rfl) hS (lv_sub hl [0, 1, 2, 3, 4, 5, 6] rfl)
                      · skip
                        refine lv_iload hx hb dX11_pitch_91 (lv_at hl 5 rfl) ?_
                        refine lv_aload_n hx hb dX11_pitch_93 rfl (lv_at hl 1 rfl) ?_
                        refine va_get (D := (dC, dI)) (ci := 11) (v := .ref (ad 13)) (C := RX11) (T := TX11) (N := 39) hx hb hts hiX11 hown hK hP 0 rfl rfl 13 (by decide) (hts (.fieldLink RX11 37 "TributePitchesModel" "fromY" "[I") (by decide +kernel)) (fun _ h9 => h9) rfl dX11_pitch_94 ?_
                        refine lv_iload hx hb dX11_pitch_97 (lv_at hl 0 rfl) ?_
                        refine va_iald hx hb hK hP 10 0 rfl rfl (vp_in_nI (by omega) (by omega)) dX11_pitch_99 ?_
                        refine lv_topi (fun v17 ev17 => ?_)
                        have ev17 : v17 = (rs_I zr 13) i49 := by rw [ev17]; rw [nI_clamp (by omega)]
                        subst ev17
                        refine lv_icmp_lt (tgt := 106) hx hb dX11_pitch_100 (by decide) (fun c18 => ?_) (fun c18 => ?_)
                        · skip
                          refine lv_iinc (v := nI (i49 + 1)) (lv' := [(6, .int (nI (i49 + 1))), (0, .ref qm), (1, .int x), (2, .int y), (3, .int xx), (4, .int yy), (5, .int tn)]) hx hb dX11_pitch_106 hl (k := 0) rfl (nI_1 i49) (by decide) rfl (fun ls hl => ?_)
                          refine lv_goto (tgt := 49) hx hb dX11_pitch_109 (by decide) ?_
                          exact ihi49 (i49 + 1)  _ _ ls (by omega) (by omega) (fun p hp => (Nat.lt_or_ge p i49).elim (fun q => hall p q) (fun z => by have e9 : p = i49 := (by omega); rw [e9]; exact fun q => absurd q.2.2.2 (Int32.not_le.mpr c18))) (hP.sub [0, 1, 2, 3, 4, 5, 6, 7, 8, 9, 10, 11, 12, 13, 14, 15, 16, 17, 18, 19, 20, 21, 22, 23, 24, 25, 26, 27] rfl) (hD.sub [0, 1, 2, 3, 4, 5, 6, 7, 8, 9, 10, 11, 12, 13, 14, 15, 16, 17, 18, 19, 20, 21, 22, 23, 24, 25, 26, 27] (by decide) rfl) hS (lv_sub hl [0, 1, 2, 3, 4, 5, 6] rfl)
                        · skip
                          refine lv_bipush (v := (-3)) hx hb dX11_pitch_103 (by decide) ?_
                          subst hQ
                          have hlf := lr_pitch_5 qm cI cJ cZ ad zr x y xx yy tn i49 c2 c4 c5 c6 c8 hlti49 hI
                          have hP9 : va_P (dC, dI) vwCl (rW qm cI cJ cZ ad zr) H := by rw [hlf.2]; exact hP.sub [0, 1, 2, 3, 4, 5, 6, 7, 8, 9, 10, 11, 12, 13, 14, 15, 16, 17, 18, 19, 20, 21, 22, 23, 24, 25, 26, 27] rfl
                          have hD9 : va_D (va_A (rW qm cI cJ cZ ad zr) s.heap.size) (rW qm cI cJ cZ ad zr) := by rw [hlf.2]; exact hD.sub [0, 1, 2, 3, 4, 5, 6, 7, 8, 9, 10, 11, 12, 13, 14, 15, 16, 17, 18, 19, 20, 21, 22, 23, 24, 25, 26, 27] (by decide) rfl
                          exact W.iret (v := (-3)) hx hb hr (fun t ht hW => ⟨⟨(-3), zr, rfl, ⟨hlf.1, (Or.inr (Or.inr (Or.inr (Or.inr (Or.inr (Or.inl ⟨c2, c4, c5, c6, c8, i49, hlti49, ⟨Int32.not_lt.mp c12, Int32.not_lt.mp c14, Int32.not_lt.mp c16, Int32.not_lt.mp c18⟩, rfl, rfl⟩))))))⟩, by rw [ht]; exact hP9, va_K.moved hW.alike hK, hD9⟩, hS.F ht⟩) hS.2.2 dX11_pitch_105
            exact loop49 ((rs_n zr 0) + 1 - 0) 0  _ _ ls (by omega) (by omega) (fun p hp => absurd hp (Nat.not_lt_zero p)) hP hD hS (lv_sub hl [0, 1, 2, 3, 4, 5, 6] rfl)
          · skip
            have c8 := (fa_bool_prop hr7).1.mp c8
            refine lv_bipush (v := (-2)) hx hb dX11_pitch_43 (by decide) ?_
            subst hQ
            exact W.iret (v := (-2)) hx hb hr (fun t ht hW => ⟨⟨(-2), zr, rfl, ⟨hI, (Or.inr (Or.inr (Or.inr (Or.inr (Or.inr (Or.inr (Or.inl ⟨c2, c4, c5, c6, c8, rfl, rfl⟩)))))))⟩, (by rw [ht]; exact hP0), va_K.moved hW.alike hK, hD0⟩, (by rw [ht]; exact Nat.le_refl _), fun q _ _ => by rw [ht]⟩) (fun q h => absurd h List.not_mem_nil) dX11_pitch_45
    · skip
      have c4 := (fa_bool_prop hr3).1.mp c4
      refine lv_iconst (v := (-1)) hx hb dX11_pitch_17 (by decide) ?_
      subst hQ
      exact W.iret (v := (-1)) hx hb hr (fun t ht hW => ⟨⟨(-1), zr, rfl, ⟨hI, (Or.inr (Or.inr (Or.inr (Or.inr (Or.inr (Or.inr (Or.inr ⟨c2, c4, rfl, rfl⟩)))))))⟩, (by rw [ht]; exact hP0), va_K.moved hW.alike hK, hD0⟩, (by rw [ht]; exact Nat.le_refl _), fun q _ _ => by rw [ht]⟩) (fun q h => absurd h List.not_mem_nil) dX11_pitch_18
