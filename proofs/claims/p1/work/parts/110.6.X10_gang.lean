set_option maxHeartbeats 4000000 in
set_option maxRecDepth 100000 in
theorem c_X10_gang (l : Launch) (dC : Nat → ClassId) (dI : Nat → Nat → Nat) (cG : ClassId) (sz : Nat) (qx : Nat) (x0 : Value) (x1 : Value) (x3 : Value) (x4 : Value) (x5 : Value) (x6 : Value) (x7 : Value) (x9 : Value) (x10 : Value) (x11 : Value) (x12 : Value) (ga : Nat) (fg : Nat → Option Nat) (k : Int32)  : Met l yX10_gang wsX10_gang ({ frames := 5, cells := 1, slots := 4, locals := 160 }) (pw (dC, dI) [(cG, .object RX2)] [(qx, .inr (10, [x0, x1, .ref ga, x3, x4, x5, x6, x7, .int 0, x9, x10, x11, x12])), (ga, .inl (cG, 8, .inr (.inr (.inr (.inr fg)))))] sz [.ref qx, .int k]) (va_Qi (fun r (_ : Unit) => r = sp_gang k) (fun _ _ => True) (va_A [(qx, .inr (10, [x0, x1, .ref ga, x3, x4, x5, x6, x7, .int 0, x9, x10, x11, x12])), (ga, .inl (cG, 8, .inr (.inr (.inr (.inr fg)))))] sz)) 1 4 (va_A [(qx, .inr (10, [x0, x1, .ref ga, x3, x4, x5, x6, x7, .int 0, x9, x10, x11, x12])), (ga, .inl (cG, 8, .inr (.inr (.inr (.inr fg)))))] sz) := by
  refine pw_met (cc := cX10_gang) (maxL := 2) (ret := (some .int)) (by decide) rfl (Nat.le_of_ble_eq_true rfl) ?_
  intro p e s m below meth c0 hx hb hr hml hown hlocks hnm hts hP hK hD hN hsz hA hS ls hl
  subst hsz
  have hl : lv_has ls 2 [(0, .ref qx), (1, .int k)] := hl
  have hiX10 : ∀ w ∈ wsX100, w ∈ wsX10_gang := by decide +kernel
  refine lv_iload_n hx hb dX10_gang_0 rfl (lv_at hl 1 rfl) ?_
  refine lv_iconst (v := 0) hx hb dX10_gang_1 (by decide) ?_
  refine lv_iconst (v := 2) hx hb dX10_gang_2 (by decide) ?_
  refine vp_callSi (va_Run.run (va_runS (As := [.int k, .int 0, .int 2]) (rest := []) ⟨hx, hb, hml, hown, hts⟩ (c_X10_isWithin l k 0 2 ) (va_cwS 3 hts gX10_gang_X10_isWithin rfl rfl rfl (by decide +kernel) ⟨Nat.le_of_ble_eq_true rfl, Nat.le_of_ble_eq_true rfl⟩) (p0_preS hN) rfl rfl hl.1 rfl (lv_room (Nat.le_of_ble_eq_true rfl)) dX10_gang_3 ⟨Nat.le_of_ble_eq_true rfl, Nat.le_of_ble_eq_true rfl⟩)) (fun r1 hr1 => ?_)
  have hr1 : r1 = if 0 ≤ k ∧ k ≤ 2 then 1 else 0 := hr1
  refine lv_if_ne (tgt := 12) hx hb dX10_gang_6 (by decide) (fun c2 => ?_) (fun c2 => ?_)
  · skip
    have c2 := (fa_bool_prop hr1).2.mp c2
    refine lv_aload_n hx hb dX10_gang_12 rfl (lv_at hl 0 rfl) ?_
    refine va_get (D := (dC, dI)) (ci := 10) (v := .int 0) (C := RX10) (T := TX10) (N := 13) hx hb hts hiX10 hown hK hP 0 rfl rfl 8 (by decide) (hts (.fieldLink RX10 143 "TributePitches" "gangCount" "I") (by decide +kernel)) (fun _ h9 => h9) rfl dX10_gang_13 ?_
    refine lv_bipush (v := 8) hx hb dX10_gang_16 (by decide) ?_
    refine lv_icmp_lt (tgt := 24) hx hb dX10_gang_18 (by decide) (fun c3 => ?_) (fun c3 => ?_)
    · skip
      refine lv_aload_n hx hb dX10_gang_24 rfl (lv_at hl 0 rfl) ?_
      refine va_get (D := (dC, dI)) (ci := 10) (v := .ref ga) (C := RX10) (T := TX10) (N := 13) hx hb hts hiX10 hown hK hP 0 rfl rfl 2 (by decide) (hts (.fieldLink RX10 26 "TributePitches" "gangs" "[LTributePitches$Gang;") (by decide +kernel)) (fun _ h9 => h9) rfl dX10_gang_25 ?_
      refine lv_aload_n hx hb dX10_gang_28 rfl (lv_at hl 0 rfl) ?_
      refine va_get (D := (dC, dI)) (ci := 10) (v := .int 0) (C := RX10) (T := TX10) (N := 13) hx hb hts hiX10 hown hK hP 0 rfl rfl 8 (by decide) (hts (.fieldLink RX10 143 "TributePitches" "gangCount" "I") (by decide +kernel)) (fun _ h9 => h9) rfl dX10_gang_29 ?_
      refine lv_iload_n hx hb dX10_gang_32 rfl (lv_at hl 1 rfl) ?_
      refine lv_aload_n hx hb dX10_gang_33 rfl (lv_at hl 0 rfl) ?_
      refine va_get (D := (dC, dI)) (ci := 10) (v := .int 0) (C := RX10) (T := TX10) (N := 13) hx hb hts hiX10 hown hK hP 0 rfl rfl 8 (by decide) (hts (.fieldLink RX10 143 "TributePitches" "gangCount" "I") (by decide +kernel)) (fun _ h9 => h9) rfl dX10_gang_34 ?_
      have hPc := hP.sub (ws' := []) [] rfl
      have hDc := hD.sub (ws' := []) [] (by decide) rfl
      have hKc := hK.sub (tys' := []) [] rfl
      have hFc := va_free (wc := []) hD hS hA [] rfl
      refine va_callr (va_runS (As := [.int k, .int 0]) (rest := [.int 0, .ref ga]) ⟨hx, hb, hml, hown, hts⟩ (c_X10_newGang l dC dI  _ k 0 ) (va_cwS 2 hts gX10_gang_X10_newGang rfl rfl rfl (by decide +kernel) ⟨Nat.le_of_ble_eq_true rfl, Nat.le_of_ble_eq_true rfl⟩) (pw_preS hPc hKc hDc hN) rfl rfl hl.1 rfl (lv_room (Nat.le_of_ble_eq_true rfl)) dX10_gang_37 ⟨Nat.le_of_ble_eq_true rfl, Nat.le_of_ble_eq_true rfl⟩) hS (fun q _ h => hFc q h) hFc (fun u r4 t H1 locs ht hvm hw hB hz1 hk1 hS => ?_)
      obtain ⟨ci, fs, hci, hP1, hK1, hD1⟩ := hB
      rw [ht] at hP1
      obtain ⟨hP, hD⟩ := va_join (wr := [(qx, .inr (10, [x0, x1, .ref ga, x3, x4, x5, x6, x7, .int 0, x9, x10, x11, x12])), (ga, .inl (cG, 8, .inr (.inr (.inr (.inr fg)))))]) (w1 := [(r4, .inr (ci, fs))]) hP hD [] [0, 1] rfl rfl (by decide) (by decide) hk1 hFc hP1 hD1
      generalize H1 = H at hP hS ⊢
      have hP : va_P (dC, dI) vwCl [(qx, .inr (10, [x0, x1, .ref ga, x3, x4, x5, x6, x7, .int 0, x9, x10, x11, x12])), (ga, .inl (cG, 8, .inr (.inr (.inr (.inr fg))))), (r4, .inr (ci, fs))] H := hP
      have hD : va_D _ [(qx, .inr (10, [x0, x1, .ref ga, x3, x4, x5, x6, x7, .int 0, x9, x10, x11, x12])), (ga, .inl (cG, 8, .inr (.inr (.inr (.inr fg))))), (r4, .inr (ci, fs))] := hD
      have hany : va_Any RX2 s H r4 := by
        rcases hci with rfl | rfl | rfl
        · exact va_rAny (q0 := 2) (r := (RX1, TX1, 4)) hK hP rfl rfl (vb_asgC hN.2.2.1)
        · exact va_rAny (q0 := 2) (r := (RX2, TX2, 4)) hK hP rfl rfl (fun a b h1 h2 => by cases h1.symm.trans h2; exact va_asg _ _)
        · exact va_rAny (q0 := 2) (r := (RX4, TX4, 4)) hK hP rfl rfl (vb_asgC hN.2.2.2)
      refine va_astqM hx hb hK hP hD hS 1 0 rfl rfl hany (by unfold vp_in; decide) dX10_gang_40 (fun H locs hP hD hS => ?_)
      have hP : va_P (dC, dI) vwCl [(qx, .inr (10, [x0, x1, .ref ga, x3, x4, x5, x6, x7, .int 0, x9, x10, x11, x12])), (ga, .inl (cG, 8, .inr (.inr (.inr (.inr (va_up fg (0 : Int32).toNatClampNeg (some r4))))))), (r4, .inr (ci, fs))] H := hP
      have hD : va_D _ [(qx, .inr (10, [x0, x1, .ref ga, x3, x4, x5, x6, x7, .int 0, x9, x10, x11, x12])), (ga, .inl (cG, 8, .inr (.inr (.inr (.inr (va_up fg (0 : Int32).toNatClampNeg (some r4))))))), (r4, .inr (ci, fs))] := hD
      refine lv_aload_n hx hb dX10_gang_41 rfl (lv_at hl 0 rfl) ?_
      refine lv_dup hx hb dX10_gang_42 rfl ?_
      refine va_get (D := (dC, dI)) (ci := 10) (v := .int 0) (C := RX10) (T := TX10) (N := 13) hx hb hts hiX10 hown hK hP 0 rfl rfl 8 (by decide) (hts (.fieldLink RX10 143 "TributePitches" "gangCount" "I") (by decide +kernel)) (fun _ h9 => h9) rfl dX10_gang_43 ?_
      refine lv_dup_x1 hx hb dX10_gang_46 rfl rfl ?_
      refine lv_iconst (v := 1) hx hb dX10_gang_47 (by decide) ?_
      refine lv_iadd hx hb dX10_gang_48 ?_
      refine lv_topi (fun v5 ev5 => ?_)
      have ev5 : v5 = 1 := by rw [ev5]; decide
      subst ev5
      refine va_put (D := (dC, dI)) (ci := 10) (v := .int 1) (ty := .int) (C := RX10) (T := TX10) (N := 13) hx hb hts hiX10 tyX10 tyX10_ok nmX10 hown hK hP hD hS 0 rfl rfl 8 (by decide) (hts (.fieldLink RX10 143 "TributePitches" "gangCount" "I") (by decide +kernel)) (fun _ h9 => h9) rfl (by decide +kernel) rfl rfl (Nat.le_of_ble_eq_true rfl) dX10_gang_49 (fun H locs hP hD hS => ?_)
      have hP : va_P (dC, dI) vwCl [(qx, .inr (10, [x0, x1, .ref ga, x3, x4, x5, x6, x7, .int 1, x9, x10, x11, x12])), (ga, .inl (cG, 8, .inr (.inr (.inr (.inr (va_up fg (0 : Int32).toNatClampNeg (some r4))))))), (r4, .inr (ci, fs))] H := hP
      have hD : va_D _ [(qx, .inr (10, [x0, x1, .ref ga, x3, x4, x5, x6, x7, .int 1, x9, x10, x11, x12])), (ga, .inl (cG, 8, .inr (.inr (.inr (.inr (va_up fg (0 : Int32).toNatClampNeg (some r4))))))), (r4, .inr (ci, fs))] := hD
      exact W.iret (v := 0) hx hb hr (fun t ht hW => ⟨⟨0, (), rfl, (by simp [sp_gang, c2, c3]), trivial⟩, hS.F ht⟩) hS.2.2 dX10_gang_52
    · exact absurd c3 (by decide)
  · skip
    have c2 := (fa_bool_prop hr1).1.mp c2
    refine lv_bipush (v := (-2)) hx hb dX10_gang_9 (by decide) ?_
    refine W.widen (k := 1) (n := 4) (Nat.le_of_ble_eq_true rfl) (Nat.le_of_ble_eq_true rfl) ?_
    exact W.iret (v := (-2)) hx hb hr (fun t ht hW => ⟨⟨(-2), (), rfl, (by simp [sp_gang, c2]), trivial⟩, hS.F ht⟩) hS.2.2 dX10_gang_11
