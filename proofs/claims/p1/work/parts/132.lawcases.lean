set_option maxHeartbeats 4000000 in
set_option maxRecDepth 100000 in
theorem law_507 {p : Program} {l : Launch} {e : Env} {s : State} {m : MethodId} {below : List Frame} {meth : Method} {c : Code} {b : Nat} {xs : Nat → Int32} {dC : Nat → ClassId} {dI : Nat → Nat → Nat} {cG_4 cI_2 cI_26 cP_3 cS_5 : ClassId} {qx ql_6 pa_11 ga_12 ta_13 pc_14 sh_15 tr_24 lw_7 hg_8 tl_9 th_10 t0_16 d0_20 t1_17 d1_21 t2_18 d2_22 t3_19 d3_23 qm m_low_27 m_high_28 m_newLow_29 m_newHigh_30 m_sheetSize_31 m_sheetLane_32 m_sheet_33 m_hands_34 m_fromX_35 m_fromY_36 m_toX_37 m_toY_38 m_tonsOf_39 m_sort_40 m_debt_41 m_gangOf_42 m_pitchOf_43 m_shareOf_44 m_isSettled_45 m_least_46 m_greatest_47 m_costs_48 m_ahead_49 m_pay_50 m_parcelTake_51 m_parcelTons_52 m_parcelGood_53 : Nat} {H : Heap} {locs : List Loc} {ls : Array Slot} (C0 : lw_At p s m meth c b 6 xs) (hN : nst s) (hK : va_K (dC, dI) vwCl [(cI_2, .int), (cP_3, .object RX6), (cG_4, .object RX2), (cS_5, .object RX7), (cI_26, .int)] s) (hP : va_P (dC, dI) vwCl [(qx, .inr (10, [.ref ql_6, .ref pa_11, .ref ga_12, .ref ta_13, .ref pc_14, .ref sh_15, .ref tr_24, .int 0, .int 0, .int 0, .int 0, .null, .int 0])), (ql_6, .inr (3, [.ref lw_7, .ref hg_8, .ref tl_9, .ref th_10, .int 1000])), (lw_7, .inl (cI_2, 48, .inl (fun _ => 0))), (hg_8, .inl (cI_2, 48, .inl (fun _ => 1000))), (tl_9, .inl (cI_2, 48, .inl (fun _ => 0))), (th_10, .inl (cI_2, 48, .inl (fun _ => 0))), (pa_11, .inl (cP_3, 12, .inr (.inr (.inr (.inr (fun _ => none)))))), (ga_12, .inl (cG_4, 8, .inr (.inr (.inr (.inr (fun _ => none)))))), (sh_15, .inl (cS_5, 4, .inr (.inr (.inr (.inr (sh4 t0_16 t1_17 t2_18 t3_19)))))), (t0_16, .inr (7, [.ref d0_20, .int (-1), .int 0])), (t1_17, .inr (7, [.ref d1_21, .int (-1), .int 0])), (t2_18, .inr (7, [.ref d2_22, .int (-1), .int 0])), (t3_19, .inr (7, [.ref d3_23, .int (-1), .int 0])), (d0_20, .inl (cI_2, 48, .inl (fun _ => 0))), (d1_21, .inl (cI_2, 48, .inl (fun _ => 0))), (d2_22, .inl (cI_2, 48, .inl (fun _ => 0))), (d3_23, .inl (cI_2, 48, .inl (fun _ => 0))), (tr_24, .inr (9, [.int 0])), (qm, .inr (11, [.int 0, .int 1000, .ref m_low_27, .ref m_high_28, .ref m_newLow_29, .ref m_newHigh_30, .int 0, .ref m_sheetSize_31, .ref m_sheetLane_32, .ref m_sheet_33, .ref m_hands_34, .int 0, .ref m_fromX_35, .ref m_fromY_36, .ref m_toX_37, .ref m_toY_38, .ref m_tonsOf_39, .int 0, .ref m_sort_40, .ref m_debt_41, .int (-9), .int 0, .int 0, .int 0, .int 0, .ref m_gangOf_42, .ref m_pitchOf_43, .ref m_shareOf_44, .ref m_isSettled_45, .ref m_least_46, .ref m_greatest_47, .ref m_costs_48, .ref m_ahead_49, .ref m_pay_50, .int 0, .ref m_parcelTake_51, .ref m_parcelTons_52, .ref m_parcelGood_53, .int 0])), (m_low_27, .inl (cI_26, 48, .inl (fun _ => 0))), (m_high_28, .inl (cI_26, 48, .inl (fun _ => 1000))), (m_newLow_29, .inl (cI_26, 48, .inl (fun _ => 0))), (m_newHigh_30, .inl (cI_26, 48, .inl (fun _ => 0))), (m_sheetSize_31, .inl (cI_26, 4, .inl (fun _ => (-1)))), (m_sheetLane_32, .inl (cI_26, 4, .inl (fun _ => 0))), (m_sheet_33, .inl (cI_26, 192, .inl (fun _ => 0))), (m_fromX_35, .inl (cI_26, 12, .inl (fun _ => 0))), (m_fromY_36, .inl (cI_26, 12, .inl (fun _ => 0))), (m_toX_37, .inl (cI_26, 12, .inl (fun _ => 0))), (m_toY_38, .inl (cI_26, 12, .inl (fun _ => 0))), (m_tonsOf_39, .inl (cI_26, 12, .inl (fun _ => 0))), (m_sort_40, .inl (cI_26, 8, .inl (fun _ => 0)))] H) (hD : va_D (fun q : Nat => s.heap.size ≤ q) [(qx, .inr (10, [.ref ql_6, .ref pa_11, .ref ga_12, .ref ta_13, .ref pc_14, .ref sh_15, .ref tr_24, .int 0, .int 0, .int 0, .int 0, .null, .int 0])), (ql_6, .inr (3, [.ref lw_7, .ref hg_8, .ref tl_9, .ref th_10, .int 1000])), (lw_7, .inl (cI_2, 48, .inl (fun _ => 0))), (hg_8, .inl (cI_2, 48, .inl (fun _ => 1000))), (tl_9, .inl (cI_2, 48, .inl (fun _ => 0))), (th_10, .inl (cI_2, 48, .inl (fun _ => 0))), (pa_11, .inl (cP_3, 12, .inr (.inr (.inr (.inr (fun _ => none)))))), (ga_12, .inl (cG_4, 8, .inr (.inr (.inr (.inr (fun _ => none)))))), (sh_15, .inl (cS_5, 4, .inr (.inr (.inr (.inr (sh4 t0_16 t1_17 t2_18 t3_19)))))), (t0_16, .inr (7, [.ref d0_20, .int (-1), .int 0])), (t1_17, .inr (7, [.ref d1_21, .int (-1), .int 0])), (t2_18, .inr (7, [.ref d2_22, .int (-1), .int 0])), (t3_19, .inr (7, [.ref d3_23, .int (-1), .int 0])), (d0_20, .inl (cI_2, 48, .inl (fun _ => 0))), (d1_21, .inl (cI_2, 48, .inl (fun _ => 0))), (d2_22, .inl (cI_2, 48, .inl (fun _ => 0))), (d3_23, .inl (cI_2, 48, .inl (fun _ => 0))), (tr_24, .inr (9, [.int 0])), (qm, .inr (11, [.int 0, .int 1000, .ref m_low_27, .ref m_high_28, .ref m_newLow_29, .ref m_newHigh_30, .int 0, .ref m_sheetSize_31, .ref m_sheetLane_32, .ref m_sheet_33, .ref m_hands_34, .int 0, .ref m_fromX_35, .ref m_fromY_36, .ref m_toX_37, .ref m_toY_38, .ref m_tonsOf_39, .int 0, .ref m_sort_40, .ref m_debt_41, .int (-9), .int 0, .int 0, .int 0, .int 0, .ref m_gangOf_42, .ref m_pitchOf_43, .ref m_shareOf_44, .ref m_isSettled_45, .ref m_least_46, .ref m_greatest_47, .ref m_costs_48, .ref m_ahead_49, .ref m_pay_50, .int 0, .ref m_parcelTake_51, .ref m_parcelTons_52, .ref m_parcelGood_53, .int 0])), (m_low_27, .inl (cI_26, 48, .inl (fun _ => 0))), (m_high_28, .inl (cI_26, 48, .inl (fun _ => 1000))), (m_newLow_29, .inl (cI_26, 48, .inl (fun _ => 0))), (m_newHigh_30, .inl (cI_26, 48, .inl (fun _ => 0))), (m_sheetSize_31, .inl (cI_26, 4, .inl (fun _ => (-1)))), (m_sheetLane_32, .inl (cI_26, 4, .inl (fun _ => 0))), (m_sheet_33, .inl (cI_26, 192, .inl (fun _ => 0))), (m_fromX_35, .inl (cI_26, 12, .inl (fun _ => 0))), (m_fromY_36, .inl (cI_26, 12, .inl (fun _ => 0))), (m_toX_37, .inl (cI_26, 12, .inl (fun _ => 0))), (m_toY_38, .inl (cI_26, 12, .inl (fun _ => 0))), (m_tonsOf_39, .inl (cI_26, 12, .inl (fun _ => 0))), (m_sort_40, .inl (cI_26, 8, .inl (fun _ => 0)))]) (hS : va_S (fun q : Nat => s.heap.size ≤ q) s.heap H locs) (hl : lv_has ls 4 [(3, .int 0), (2, .ref qm), (1, .ref qx), (0, .ref b)]) : W p l e room_1 s m #[Value.ref b] below meth c H locs 48 1714 (lw_Z below #[Value.ref b] s) (F0 m 507 ls []) := by
  obtain ⟨hx, hb, hr, hml, hown, hts0, hX, hbl, hlocks, hgv⟩ := id C0
  have hA : ∀ q : Nat, s.heap.size ≤ q → (fun q : Nat => s.heap.size ≤ q) q := fun _ h => h
  have hbA : ¬ (fun q : Nat => s.heap.size ≤ q) b := Nat.not_le.mpr hbl
  have hts : ∀ w ∈ wsL_law, w.before #[Value.ref b] s = true := fun w h => hts0 w (wsL_law_in w h)
  refine lv_aload_n hx hb dL_law_507 rfl (lv_at hl 2 rfl) ?_
  refine lv_aload_n hx hb dL_law_508 rfl (lv_at hl 3 rfl) ?_
  refine lv_iload_n hx hb dL_law_509 rfl (lv_at hl 0 rfl) ?_
  refine lv_iconst (v := 1) hx hb dL_law_510 (by decide) ?_
  refine lv_iadd hx hb dL_law_511 ?_
  refine lv_topi (fun v1 ev1 => ?_)
  have ev1 : v1 = 1 := by rw [ev1]; decide
  subst ev1
  refine va_sld hx hb hX hbl hbA hS (by unfold vp_in; decide) dL_law_512 ?_
  refine W.eq (g2 := F0 m 513 ls [.int (xs 1), .ref qx]) rfl ?_
  refine lv_aload_n hx hb dL_law_513 rfl (lv_at hl 3 rfl) ?_
  refine lv_iload_n hx hb dL_law_514 rfl (lv_at hl 0 rfl) ?_
  refine lv_iconst (v := 2) hx hb dL_law_515 (by decide) ?_
  refine lv_iadd hx hb dL_law_516 ?_
  refine lv_topi (fun v2 ev2 => ?_)
  have ev2 : v2 = 2 := by rw [ev2]; decide
  subst ev2
  refine va_sld hx hb hX hbl hbA hS (by unfold vp_in; decide) dL_law_517 ?_
  refine W.eq (g2 := F0 m 518 ls [.int (xs 2), .int (xs 1), .ref qx]) rfl ?_
  have hPc := hP.sub (ws' := [(qx, .inr (10, [.ref ql_6, .ref pa_11, .ref ga_12, .ref ta_13, .ref pc_14, .ref sh_15, .ref tr_24, .int 0, .int 0, .int 0, .int 0, .null, .int 0]))]) [0] rfl
  have hDc := hD.sub (ws' := [(qx, .inr (10, [.ref ql_6, .ref pa_11, .ref ga_12, .ref ta_13, .ref pc_14, .ref sh_15, .ref tr_24, .int 0, .int 0, .int 0, .int 0, .null, .int 0]))]) [0] (by decide) rfl
  have hKc := hK.sub (tys' := []) [] rfl
  refine vp_callSi (va_Run.run (va_runV (As := [.int (xs 1), .int (xs 2)]) (rest := []) ⟨hx, hb, hml, hown, hts⟩ (c_X10_bid l dC dI  _ qx (.ref ql_6) (.ref pa_11) (.ref ga_12) (.ref ta_13) (.ref pc_14) (.ref sh_15) (.ref tr_24) (.int 0) (.int 0) (.int 0) .null (.int 0) (xs 1) (xs 2) ) (cwV 2 hts gL_law_X10_bid rfl rfl rfl (by decide +kernel) ⟨Nat.le_of_ble_eq_true rfl, Nat.le_of_ble_eq_true rfl⟩) (pw_preV (va_recv hKc hPc (ci := 10) (q0 := 0) rfl rfl) hPc hKc hDc hN) rfl rfl hl.1 rfl (lv_room (Nat.le_of_ble_eq_true rfl)) dL_law_518 ⟨Nat.le_of_ble_eq_true rfl, Nat.le_of_ble_eq_true rfl⟩)) (fun r3 hr3 => ?_)
  have hr3 : r3 = -1 := hr3
  refine lv_aload_n hx hb dL_law_521 rfl (lv_at hl 1 rfl) ?_
  refine lv_aload_n hx hb dL_law_522 rfl (lv_at hl 3 rfl) ?_
  refine lv_iload_n hx hb dL_law_523 rfl (lv_at hl 0 rfl) ?_
  refine lv_iconst (v := 1) hx hb dL_law_524 (by decide) ?_
  refine lv_iadd hx hb dL_law_525 ?_
  refine lv_topi (fun v4 ev4 => ?_)
  have ev4 : v4 = 1 := by rw [ev4]; decide
  subst ev4
  refine va_sld hx hb hX hbl hbA hS (by unfold vp_in; decide) dL_law_526 ?_
  refine W.eq (g2 := F0 m 527 ls [.int (xs 1), .ref qm, .int r3]) rfl ?_
  refine lv_aload_n hx hb dL_law_527 rfl (lv_at hl 3 rfl) ?_
  refine lv_iload_n hx hb dL_law_528 rfl (lv_at hl 0 rfl) ?_
  refine lv_iconst (v := 2) hx hb dL_law_529 (by decide) ?_
  refine lv_iadd hx hb dL_law_530 ?_
  refine lv_topi (fun v5 ev5 => ?_)
  have ev5 : v5 = 2 := by rw [ev5]; decide
  subst ev5
  refine va_sld hx hb hX hbl hbA hS (by unfold vp_in; decide) dL_law_531 ?_
  refine W.eq (g2 := F0 m 532 ls [.int (xs 2), .int (xs 1), .ref qm, .int r3]) rfl ?_
  have hPc := hP.sub (ws' := [(qm, .inr (11, [.int 0, .int 1000, .ref m_low_27, .ref m_high_28, .ref m_newLow_29, .ref m_newHigh_30, .int 0, .ref m_sheetSize_31, .ref m_sheetLane_32, .ref m_sheet_33, .ref m_hands_34, .int 0, .ref m_fromX_35, .ref m_fromY_36, .ref m_toX_37, .ref m_toY_38, .ref m_tonsOf_39, .int 0, .ref m_sort_40, .ref m_debt_41, .int (-9), .int 0, .int 0, .int 0, .int 0, .ref m_gangOf_42, .ref m_pitchOf_43, .ref m_shareOf_44, .ref m_isSettled_45, .ref m_least_46, .ref m_greatest_47, .ref m_costs_48, .ref m_ahead_49, .ref m_pay_50, .int 0, .ref m_parcelTake_51, .ref m_parcelTons_52, .ref m_parcelGood_53, .int 0]))]) [18] rfl
  have hDc := hD.sub (ws' := [(qm, .inr (11, [.int 0, .int 1000, .ref m_low_27, .ref m_high_28, .ref m_newLow_29, .ref m_newHigh_30, .int 0, .ref m_sheetSize_31, .ref m_sheetLane_32, .ref m_sheet_33, .ref m_hands_34, .int 0, .ref m_fromX_35, .ref m_fromY_36, .ref m_toX_37, .ref m_toY_38, .ref m_tonsOf_39, .int 0, .ref m_sort_40, .ref m_debt_41, .int (-9), .int 0, .int 0, .int 0, .int 0, .ref m_gangOf_42, .ref m_pitchOf_43, .ref m_shareOf_44, .ref m_isSettled_45, .ref m_least_46, .ref m_greatest_47, .ref m_costs_48, .ref m_ahead_49, .ref m_pay_50, .int 0, .ref m_parcelTake_51, .ref m_parcelTons_52, .ref m_parcelGood_53, .int 0]))]) [18] (by decide) rfl
  have hKc := hK.sub (tys' := []) [] rfl
  refine vp_callSi (va_Run.run (va_runV (As := [.int (xs 1), .int (xs 2)]) (rest := [.int r3]) ⟨hx, hb, hml, hown, hts⟩ (c_X11_bid l dC dI  _ qm (.int 0) (.int 1000) (.ref m_low_27) (.ref m_high_28) (.ref m_newLow_29) (.ref m_newHigh_30) (.int 0) (.ref m_sheetSize_31) (.ref m_sheetLane_32) (.ref m_sheet_33) (.ref m_hands_34) (.int 0) (.ref m_fromX_35) (.ref m_fromY_36) (.ref m_toX_37) (.ref m_toY_38) (.ref m_tonsOf_39) (.ref m_sort_40) (.ref m_debt_41) (.int (-9)) (.int 0) (.int 0) (.int 0) (.int 0) (.ref m_gangOf_42) (.ref m_pitchOf_43) (.ref m_shareOf_44) (.ref m_isSettled_45) (.ref m_least_46) (.ref m_greatest_47) (.ref m_costs_48) (.ref m_ahead_49) (.ref m_pay_50) (.int 0) (.ref m_parcelTake_51) (.ref m_parcelTons_52) (.ref m_parcelGood_53) (.int 0) (xs 1) (xs 2) ) (cwV 2 hts gL_law_X11_bid rfl rfl rfl (by decide +kernel) ⟨Nat.le_of_ble_eq_true rfl, Nat.le_of_ble_eq_true rfl⟩) (pw_preV (va_recv hKc hPc (ci := 11) (q0 := 0) rfl rfl) hPc hKc hDc hN) rfl rfl hl.1 rfl (lv_room (Nat.le_of_ble_eq_true rfl)) dL_law_532 ⟨Nat.le_of_ble_eq_true rfl, Nat.le_of_ble_eq_true rfl⟩)) (fun r6 hr6 => ?_)
  have hr6 : r6 = -1 := hr6
  refine lv_icmp_eq (tgt := 1202) hx hb dL_law_535 (by decide) (fun c7 => ?_) (fun c7 => ?_)
  · skip
    refine lv_iinc (v := 6) (lv' := [(3, .int 6), (2, .ref qm), (1, .ref qx), (0, .ref b)]) hx hb dL_law_1202 hl (k := 0) rfl (by decide) (by decide) rfl (fun ls hl => ?_)
    refine lv_goto (tgt := 18) hx hb dL_law_1205 (by decide) ?_
    refine lv_iload_n hx hb dL_law_18 rfl (lv_at hl 0 rfl) ?_
    refine lv_aload_n hx hb dL_law_19 rfl (lv_at hl 3 rfl) ?_
    refine va_slen hx hb hX hbl hbA hS dL_law_20 ?_
    refine W.eq (g2 := F0 m 21 ls [.int 6, .int 6]) rfl ?_
    refine lv_bipush (v := 6) hx hb dL_law_21 (by decide) ?_
    refine lv_isub hx hb dL_law_23 ?_
    refine lv_topi (fun v8 ev8 => ?_)
    have ev8 : v8 = 0 := by rw [ev8]; decide
    subst ev8
    refine lv_icmp_gt (tgt := 1208) hx hb dL_law_24 (by decide) (fun c9 => ?_) (fun c9 => ?_)
    · skip
      refine lv_iconst (v := 1) hx hb dL_law_1208 (by decide) ?_
      refine va_forget (fun q hq => hS.2.2 q hq) ?_
      refine W.widen (k := 600000) (n := 7302250) (Nat.le_of_ble_eq_true rfl) (Nat.le_of_ble_eq_true rfl) ?_
      exact lw_ret hx hb hr hlocks dL_law_1209
    · exact absurd c9 (by decide)
  · exact absurd c7 (not_not_intro (hr3.trans hr6.symm))
set_option maxHeartbeats 4000000 in
set_option maxRecDepth 100000 in
theorem law_540 {p : Program} {l : Launch} {e : Env} {s : State} {m : MethodId} {below : List Frame} {meth : Method} {c : Code} {b : Nat} {xs : Nat → Int32} {dC : Nat → ClassId} {dI : Nat → Nat → Nat} {cG_4 cI_2 cI_26 cP_3 cS_5 : ClassId} {qx ql_6 pa_11 ga_12 ta_13 pc_14 sh_15 tr_24 lw_7 hg_8 tl_9 th_10 t0_16 d0_20 t1_17 d1_21 t2_18 d2_22 t3_19 d3_23 qm m_low_27 m_high_28 m_newLow_29 m_newHigh_30 m_sheetSize_31 m_sheetLane_32 m_sheet_33 m_hands_34 m_fromX_35 m_fromY_36 m_toX_37 m_toY_38 m_tonsOf_39 m_sort_40 m_debt_41 m_gangOf_42 m_pitchOf_43 m_shareOf_44 m_isSettled_45 m_least_46 m_greatest_47 m_costs_48 m_ahead_49 m_pay_50 m_parcelTake_51 m_parcelTons_52 m_parcelGood_53 : Nat} {H : Heap} {locs : List Loc} {ls : Array Slot} (C0 : lw_At p s m meth c b 6 xs) (hN : nst s) (hK : va_K (dC, dI) vwCl [(cI_2, .int), (cP_3, .object RX6), (cG_4, .object RX2), (cS_5, .object RX7), (cI_26, .int)] s) (hP : va_P (dC, dI) vwCl [(qx, .inr (10, [.ref ql_6, .ref pa_11, .ref ga_12, .ref ta_13, .ref pc_14, .ref sh_15, .ref tr_24, .int 0, .int 0, .int 0, .int 0, .null, .int 0])), (ql_6, .inr (3, [.ref lw_7, .ref hg_8, .ref tl_9, .ref th_10, .int 1000])), (lw_7, .inl (cI_2, 48, .inl (fun _ => 0))), (hg_8, .inl (cI_2, 48, .inl (fun _ => 1000))), (tl_9, .inl (cI_2, 48, .inl (fun _ => 0))), (th_10, .inl (cI_2, 48, .inl (fun _ => 0))), (pa_11, .inl (cP_3, 12, .inr (.inr (.inr (.inr (fun _ => none)))))), (ga_12, .inl (cG_4, 8, .inr (.inr (.inr (.inr (fun _ => none)))))), (sh_15, .inl (cS_5, 4, .inr (.inr (.inr (.inr (sh4 t0_16 t1_17 t2_18 t3_19)))))), (t0_16, .inr (7, [.ref d0_20, .int (-1), .int 0])), (t1_17, .inr (7, [.ref d1_21, .int (-1), .int 0])), (t2_18, .inr (7, [.ref d2_22, .int (-1), .int 0])), (t3_19, .inr (7, [.ref d3_23, .int (-1), .int 0])), (d0_20, .inl (cI_2, 48, .inl (fun _ => 0))), (d1_21, .inl (cI_2, 48, .inl (fun _ => 0))), (d2_22, .inl (cI_2, 48, .inl (fun _ => 0))), (d3_23, .inl (cI_2, 48, .inl (fun _ => 0))), (tr_24, .inr (9, [.int 0])), (qm, .inr (11, [.int 0, .int 1000, .ref m_low_27, .ref m_high_28, .ref m_newLow_29, .ref m_newHigh_30, .int 0, .ref m_sheetSize_31, .ref m_sheetLane_32, .ref m_sheet_33, .ref m_hands_34, .int 0, .ref m_fromX_35, .ref m_fromY_36, .ref m_toX_37, .ref m_toY_38, .ref m_tonsOf_39, .int 0, .ref m_sort_40, .ref m_debt_41, .int (-9), .int 0, .int 0, .int 0, .int 0, .ref m_gangOf_42, .ref m_pitchOf_43, .ref m_shareOf_44, .ref m_isSettled_45, .ref m_least_46, .ref m_greatest_47, .ref m_costs_48, .ref m_ahead_49, .ref m_pay_50, .int 0, .ref m_parcelTake_51, .ref m_parcelTons_52, .ref m_parcelGood_53, .int 0])), (m_low_27, .inl (cI_26, 48, .inl (fun _ => 0))), (m_high_28, .inl (cI_26, 48, .inl (fun _ => 1000))), (m_newLow_29, .inl (cI_26, 48, .inl (fun _ => 0))), (m_newHigh_30, .inl (cI_26, 48, .inl (fun _ => 0))), (m_sheetSize_31, .inl (cI_26, 4, .inl (fun _ => (-1)))), (m_sheetLane_32, .inl (cI_26, 4, .inl (fun _ => 0))), (m_sheet_33, .inl (cI_26, 192, .inl (fun _ => 0))), (m_fromX_35, .inl (cI_26, 12, .inl (fun _ => 0))), (m_fromY_36, .inl (cI_26, 12, .inl (fun _ => 0))), (m_toX_37, .inl (cI_26, 12, .inl (fun _ => 0))), (m_toY_38, .inl (cI_26, 12, .inl (fun _ => 0))), (m_tonsOf_39, .inl (cI_26, 12, .inl (fun _ => 0))), (m_sort_40, .inl (cI_26, 8, .inl (fun _ => 0)))] H) (hD : va_D (fun q : Nat => s.heap.size ≤ q) [(qx, .inr (10, [.ref ql_6, .ref pa_11, .ref ga_12, .ref ta_13, .ref pc_14, .ref sh_15, .ref tr_24, .int 0, .int 0, .int 0, .int 0, .null, .int 0])), (ql_6, .inr (3, [.ref lw_7, .ref hg_8, .ref tl_9, .ref th_10, .int 1000])), (lw_7, .inl (cI_2, 48, .inl (fun _ => 0))), (hg_8, .inl (cI_2, 48, .inl (fun _ => 1000))), (tl_9, .inl (cI_2, 48, .inl (fun _ => 0))), (th_10, .inl (cI_2, 48, .inl (fun _ => 0))), (pa_11, .inl (cP_3, 12, .inr (.inr (.inr (.inr (fun _ => none)))))), (ga_12, .inl (cG_4, 8, .inr (.inr (.inr (.inr (fun _ => none)))))), (sh_15, .inl (cS_5, 4, .inr (.inr (.inr (.inr (sh4 t0_16 t1_17 t2_18 t3_19)))))), (t0_16, .inr (7, [.ref d0_20, .int (-1), .int 0])), (t1_17, .inr (7, [.ref d1_21, .int (-1), .int 0])), (t2_18, .inr (7, [.ref d2_22, .int (-1), .int 0])), (t3_19, .inr (7, [.ref d3_23, .int (-1), .int 0])), (d0_20, .inl (cI_2, 48, .inl (fun _ => 0))), (d1_21, .inl (cI_2, 48, .inl (fun _ => 0))), (d2_22, .inl (cI_2, 48, .inl (fun _ => 0))), (d3_23, .inl (cI_2, 48, .inl (fun _ => 0))), (tr_24, .inr (9, [.int 0])), (qm, .inr (11, [.int 0, .int 1000, .ref m_low_27, .ref m_high_28, .ref m_newLow_29, .ref m_newHigh_30, .int 0, .ref m_sheetSize_31, .ref m_sheetLane_32, .ref m_sheet_33, .ref m_hands_34, .int 0, .ref m_fromX_35, .ref m_fromY_36, .ref m_toX_37, .ref m_toY_38, .ref m_tonsOf_39, .int 0, .ref m_sort_40, .ref m_debt_41, .int (-9), .int 0, .int 0, .int 0, .int 0, .ref m_gangOf_42, .ref m_pitchOf_43, .ref m_shareOf_44, .ref m_isSettled_45, .ref m_least_46, .ref m_greatest_47, .ref m_costs_48, .ref m_ahead_49, .ref m_pay_50, .int 0, .ref m_parcelTake_51, .ref m_parcelTons_52, .ref m_parcelGood_53, .int 0])), (m_low_27, .inl (cI_26, 48, .inl (fun _ => 0))), (m_high_28, .inl (cI_26, 48, .inl (fun _ => 1000))), (m_newLow_29, .inl (cI_26, 48, .inl (fun _ => 0))), (m_newHigh_30, .inl (cI_26, 48, .inl (fun _ => 0))), (m_sheetSize_31, .inl (cI_26, 4, .inl (fun _ => (-1)))), (m_sheetLane_32, .inl (cI_26, 4, .inl (fun _ => 0))), (m_sheet_33, .inl (cI_26, 192, .inl (fun _ => 0))), (m_fromX_35, .inl (cI_26, 12, .inl (fun _ => 0))), (m_fromY_36, .inl (cI_26, 12, .inl (fun _ => 0))), (m_toX_37, .inl (cI_26, 12, .inl (fun _ => 0))), (m_toY_38, .inl (cI_26, 12, .inl (fun _ => 0))), (m_tonsOf_39, .inl (cI_26, 12, .inl (fun _ => 0))), (m_sort_40, .inl (cI_26, 8, .inl (fun _ => 0)))]) (hS : va_S (fun q : Nat => s.heap.size ≤ q) s.heap H locs) (hl : lv_has ls 4 [(3, .int 0), (2, .ref qm), (1, .ref qx), (0, .ref b)]) : W p l e room_1 s m #[Value.ref b] below meth c H locs 48 1714 (lw_Z below #[Value.ref b] s) (F0 m 540 ls []) := by
  obtain ⟨hx, hb, hr, hml, hown, hts0, hX, hbl, hlocks, hgv⟩ := id C0
  have hA : ∀ q : Nat, s.heap.size ≤ q → (fun q : Nat => s.heap.size ≤ q) q := fun _ h => h
  have hbA : ¬ (fun q : Nat => s.heap.size ≤ q) b := Nat.not_le.mpr hbl
  have hts : ∀ w ∈ wsL_law, w.before #[Value.ref b] s = true := fun w h => hts0 w (wsL_law_in w h)
  refine lv_aload_n hx hb dL_law_540 rfl (lv_at hl 2 rfl) ?_
  have hPc := hP.sub (ws' := [(qx, .inr (10, [.ref ql_6, .ref pa_11, .ref ga_12, .ref ta_13, .ref pc_14, .ref sh_15, .ref tr_24, .int 0, .int 0, .int 0, .int 0, .null, .int 0]))]) [0] rfl
  have hDc := hD.sub (ws' := [(qx, .inr (10, [.ref ql_6, .ref pa_11, .ref ga_12, .ref ta_13, .ref pc_14, .ref sh_15, .ref tr_24, .int 0, .int 0, .int 0, .int 0, .null, .int 0]))]) [0] (by decide) rfl
  have hKc := hK.sub (tys' := []) [] rfl
  refine vp_callSi (va_Run.run (va_runV (As := []) (rest := []) ⟨hx, hb, hml, hown, hts⟩ (c_X10_strike l dC dI  _ qx (.ref ql_6) (.ref pa_11) (.ref ga_12) (.ref ta_13) (.ref pc_14) (.ref sh_15) (.ref tr_24) (.int 0) (.int 0) (.int 0) (.int 0) (.int 0) ) (cwV 0 hts gL_law_X10_strike rfl rfl rfl (by decide +kernel) ⟨Nat.le_of_ble_eq_true rfl, Nat.le_of_ble_eq_true rfl⟩) (pw_preV (va_recv hKc hPc (ci := 10) (q0 := 0) rfl rfl) hPc hKc hDc hN) rfl rfl hl.1 rfl (lv_room (Nat.le_of_ble_eq_true rfl)) dL_law_541 ⟨Nat.le_of_ble_eq_true rfl, Nat.le_of_ble_eq_true rfl⟩)) (fun r1 hr1 => ?_)
  have hr1 : r1 = -3 := hr1
  refine lv_aload_n hx hb dL_law_544 rfl (lv_at hl 1 rfl) ?_
  have hPc := hP.sub (ws' := [(qm, .inr (11, [.int 0, .int 1000, .ref m_low_27, .ref m_high_28, .ref m_newLow_29, .ref m_newHigh_30, .int 0, .ref m_sheetSize_31, .ref m_sheetLane_32, .ref m_sheet_33, .ref m_hands_34, .int 0, .ref m_fromX_35, .ref m_fromY_36, .ref m_toX_37, .ref m_toY_38, .ref m_tonsOf_39, .int 0, .ref m_sort_40, .ref m_debt_41, .int (-9), .int 0, .int 0, .int 0, .int 0, .ref m_gangOf_42, .ref m_pitchOf_43, .ref m_shareOf_44, .ref m_isSettled_45, .ref m_least_46, .ref m_greatest_47, .ref m_costs_48, .ref m_ahead_49, .ref m_pay_50, .int 0, .ref m_parcelTake_51, .ref m_parcelTons_52, .ref m_parcelGood_53, .int 0]))]) [18] rfl
  have hDc := hD.sub (ws' := [(qm, .inr (11, [.int 0, .int 1000, .ref m_low_27, .ref m_high_28, .ref m_newLow_29, .ref m_newHigh_30, .int 0, .ref m_sheetSize_31, .ref m_sheetLane_32, .ref m_sheet_33, .ref m_hands_34, .int 0, .ref m_fromX_35, .ref m_fromY_36, .ref m_toX_37, .ref m_toY_38, .ref m_tonsOf_39, .int 0, .ref m_sort_40, .ref m_debt_41, .int (-9), .int 0, .int 0, .int 0, .int 0, .ref m_gangOf_42, .ref m_pitchOf_43, .ref m_shareOf_44, .ref m_isSettled_45, .ref m_least_46, .ref m_greatest_47, .ref m_costs_48, .ref m_ahead_49, .ref m_pay_50, .int 0, .ref m_parcelTake_51, .ref m_parcelTons_52, .ref m_parcelGood_53, .int 0]))]) [18] (by decide) rfl
  have hKc := hK.sub (tys' := []) [] rfl
  refine vp_callSi (va_Run.run (va_runV (As := []) (rest := [.int r1]) ⟨hx, hb, hml, hown, hts⟩ (c_X11_strike l dC dI  _ qm (.int 0) (.int 1000) (.ref m_low_27) (.ref m_high_28) (.ref m_newLow_29) (.ref m_newHigh_30) (.int 0) (.ref m_sheetSize_31) (.ref m_sheetLane_32) (.ref m_sheet_33) (.ref m_hands_34) (.int 0) (.ref m_fromX_35) (.ref m_fromY_36) (.ref m_toX_37) (.ref m_toY_38) (.ref m_tonsOf_39) (.int 0) (.ref m_sort_40) (.ref m_debt_41) (.int 0) (.int 0) (.int 0) (.int 0) (.ref m_gangOf_42) (.ref m_pitchOf_43) (.ref m_shareOf_44) (.ref m_isSettled_45) (.ref m_least_46) (.ref m_greatest_47) (.ref m_costs_48) (.ref m_ahead_49) (.ref m_pay_50) (.int 0) (.ref m_parcelTake_51) (.ref m_parcelTons_52) (.ref m_parcelGood_53) (.int 0) ) (cwV 0 hts gL_law_X11_strike rfl rfl rfl (by decide +kernel) ⟨Nat.le_of_ble_eq_true rfl, Nat.le_of_ble_eq_true rfl⟩) (pw_preV (va_recv hKc hPc (ci := 11) (q0 := 0) rfl rfl) hPc hKc hDc hN) rfl rfl hl.1 rfl (lv_room (Nat.le_of_ble_eq_true rfl)) dL_law_545 ⟨Nat.le_of_ble_eq_true rfl, Nat.le_of_ble_eq_true rfl⟩)) (fun r2 hr2 => ?_)
  have hr2 : r2 = -3 := hr2
  refine lv_icmp_eq (tgt := 1202) hx hb dL_law_548 (by decide) (fun c3 => ?_) (fun c3 => ?_)
  · skip
    refine lv_iinc (v := 6) (lv' := [(3, .int 6), (2, .ref qm), (1, .ref qx), (0, .ref b)]) hx hb dL_law_1202 hl (k := 0) rfl (by decide) (by decide) rfl (fun ls hl => ?_)
    refine lv_goto (tgt := 18) hx hb dL_law_1205 (by decide) ?_
    refine lv_iload_n hx hb dL_law_18 rfl (lv_at hl 0 rfl) ?_
    refine lv_aload_n hx hb dL_law_19 rfl (lv_at hl 3 rfl) ?_
    refine va_slen hx hb hX hbl hbA hS dL_law_20 ?_
    refine W.eq (g2 := F0 m 21 ls [.int 6, .int 6]) rfl ?_
    refine lv_bipush (v := 6) hx hb dL_law_21 (by decide) ?_
    refine lv_isub hx hb dL_law_23 ?_
    refine lv_topi (fun v4 ev4 => ?_)
    have ev4 : v4 = 0 := by rw [ev4]; decide
    subst ev4
    refine lv_icmp_gt (tgt := 1208) hx hb dL_law_24 (by decide) (fun c5 => ?_) (fun c5 => ?_)
    · skip
      refine lv_iconst (v := 1) hx hb dL_law_1208 (by decide) ?_
      refine va_forget (fun q hq => hS.2.2 q hq) ?_
      refine W.widen (k := 600000) (n := 7302250) (Nat.le_of_ble_eq_true rfl) (Nat.le_of_ble_eq_true rfl) ?_
      exact lw_ret hx hb hr hlocks dL_law_1209
    · exact absurd c5 (by decide)
  · exact absurd c3 (not_not_intro (hr1.trans hr2.symm))
set_option maxHeartbeats 4000000 in
set_option maxRecDepth 100000 in
theorem law_553 {p : Program} {l : Launch} {e : Env} {s : State} {m : MethodId} {below : List Frame} {meth : Method} {c : Code} {b : Nat} {xs : Nat → Int32} {dC : Nat → ClassId} {dI : Nat → Nat → Nat} {cG_4 cI_2 cI_26 cP_3 cS_5 : ClassId} {qx ql_6 pa_11 ga_12 ta_13 pc_14 sh_15 tr_24 lw_7 hg_8 tl_9 th_10 t0_16 d0_20 t1_17 d1_21 t2_18 d2_22 t3_19 d3_23 qm m_low_27 m_high_28 m_newLow_29 m_newHigh_30 m_sheetSize_31 m_sheetLane_32 m_sheet_33 m_hands_34 m_fromX_35 m_fromY_36 m_toX_37 m_toY_38 m_tonsOf_39 m_sort_40 m_debt_41 m_gangOf_42 m_pitchOf_43 m_shareOf_44 m_isSettled_45 m_least_46 m_greatest_47 m_costs_48 m_ahead_49 m_pay_50 m_parcelTake_51 m_parcelTons_52 m_parcelGood_53 : Nat} {H : Heap} {locs : List Loc} {ls : Array Slot} (C0 : lw_At p s m meth c b 6 xs) (hN : nst s) (hK : va_K (dC, dI) vwCl [(cI_2, .int), (cP_3, .object RX6), (cG_4, .object RX2), (cS_5, .object RX7), (cI_26, .int)] s) (hP : va_P (dC, dI) vwCl [(qx, .inr (10, [.ref ql_6, .ref pa_11, .ref ga_12, .ref ta_13, .ref pc_14, .ref sh_15, .ref tr_24, .int 0, .int 0, .int 0, .int 0, .null, .int 0])), (ql_6, .inr (3, [.ref lw_7, .ref hg_8, .ref tl_9, .ref th_10, .int 1000])), (lw_7, .inl (cI_2, 48, .inl (fun _ => 0))), (hg_8, .inl (cI_2, 48, .inl (fun _ => 1000))), (tl_9, .inl (cI_2, 48, .inl (fun _ => 0))), (th_10, .inl (cI_2, 48, .inl (fun _ => 0))), (pa_11, .inl (cP_3, 12, .inr (.inr (.inr (.inr (fun _ => none)))))), (ga_12, .inl (cG_4, 8, .inr (.inr (.inr (.inr (fun _ => none)))))), (sh_15, .inl (cS_5, 4, .inr (.inr (.inr (.inr (sh4 t0_16 t1_17 t2_18 t3_19)))))), (t0_16, .inr (7, [.ref d0_20, .int (-1), .int 0])), (t1_17, .inr (7, [.ref d1_21, .int (-1), .int 0])), (t2_18, .inr (7, [.ref d2_22, .int (-1), .int 0])), (t3_19, .inr (7, [.ref d3_23, .int (-1), .int 0])), (d0_20, .inl (cI_2, 48, .inl (fun _ => 0))), (d1_21, .inl (cI_2, 48, .inl (fun _ => 0))), (d2_22, .inl (cI_2, 48, .inl (fun _ => 0))), (d3_23, .inl (cI_2, 48, .inl (fun _ => 0))), (tr_24, .inr (9, [.int 0])), (qm, .inr (11, [.int 0, .int 1000, .ref m_low_27, .ref m_high_28, .ref m_newLow_29, .ref m_newHigh_30, .int 0, .ref m_sheetSize_31, .ref m_sheetLane_32, .ref m_sheet_33, .ref m_hands_34, .int 0, .ref m_fromX_35, .ref m_fromY_36, .ref m_toX_37, .ref m_toY_38, .ref m_tonsOf_39, .int 0, .ref m_sort_40, .ref m_debt_41, .int (-9), .int 0, .int 0, .int 0, .int 0, .ref m_gangOf_42, .ref m_pitchOf_43, .ref m_shareOf_44, .ref m_isSettled_45, .ref m_least_46, .ref m_greatest_47, .ref m_costs_48, .ref m_ahead_49, .ref m_pay_50, .int 0, .ref m_parcelTake_51, .ref m_parcelTons_52, .ref m_parcelGood_53, .int 0])), (m_low_27, .inl (cI_26, 48, .inl (fun _ => 0))), (m_high_28, .inl (cI_26, 48, .inl (fun _ => 1000))), (m_newLow_29, .inl (cI_26, 48, .inl (fun _ => 0))), (m_newHigh_30, .inl (cI_26, 48, .inl (fun _ => 0))), (m_sheetSize_31, .inl (cI_26, 4, .inl (fun _ => (-1)))), (m_sheetLane_32, .inl (cI_26, 4, .inl (fun _ => 0))), (m_sheet_33, .inl (cI_26, 192, .inl (fun _ => 0))), (m_fromX_35, .inl (cI_26, 12, .inl (fun _ => 0))), (m_fromY_36, .inl (cI_26, 12, .inl (fun _ => 0))), (m_toX_37, .inl (cI_26, 12, .inl (fun _ => 0))), (m_toY_38, .inl (cI_26, 12, .inl (fun _ => 0))), (m_tonsOf_39, .inl (cI_26, 12, .inl (fun _ => 0))), (m_sort_40, .inl (cI_26, 8, .inl (fun _ => 0)))] H) (hD : va_D (fun q : Nat => s.heap.size ≤ q) [(qx, .inr (10, [.ref ql_6, .ref pa_11, .ref ga_12, .ref ta_13, .ref pc_14, .ref sh_15, .ref tr_24, .int 0, .int 0, .int 0, .int 0, .null, .int 0])), (ql_6, .inr (3, [.ref lw_7, .ref hg_8, .ref tl_9, .ref th_10, .int 1000])), (lw_7, .inl (cI_2, 48, .inl (fun _ => 0))), (hg_8, .inl (cI_2, 48, .inl (fun _ => 1000))), (tl_9, .inl (cI_2, 48, .inl (fun _ => 0))), (th_10, .inl (cI_2, 48, .inl (fun _ => 0))), (pa_11, .inl (cP_3, 12, .inr (.inr (.inr (.inr (fun _ => none)))))), (ga_12, .inl (cG_4, 8, .inr (.inr (.inr (.inr (fun _ => none)))))), (sh_15, .inl (cS_5, 4, .inr (.inr (.inr (.inr (sh4 t0_16 t1_17 t2_18 t3_19)))))), (t0_16, .inr (7, [.ref d0_20, .int (-1), .int 0])), (t1_17, .inr (7, [.ref d1_21, .int (-1), .int 0])), (t2_18, .inr (7, [.ref d2_22, .int (-1), .int 0])), (t3_19, .inr (7, [.ref d3_23, .int (-1), .int 0])), (d0_20, .inl (cI_2, 48, .inl (fun _ => 0))), (d1_21, .inl (cI_2, 48, .inl (fun _ => 0))), (d2_22, .inl (cI_2, 48, .inl (fun _ => 0))), (d3_23, .inl (cI_2, 48, .inl (fun _ => 0))), (tr_24, .inr (9, [.int 0])), (qm, .inr (11, [.int 0, .int 1000, .ref m_low_27, .ref m_high_28, .ref m_newLow_29, .ref m_newHigh_30, .int 0, .ref m_sheetSize_31, .ref m_sheetLane_32, .ref m_sheet_33, .ref m_hands_34, .int 0, .ref m_fromX_35, .ref m_fromY_36, .ref m_toX_37, .ref m_toY_38, .ref m_tonsOf_39, .int 0, .ref m_sort_40, .ref m_debt_41, .int (-9), .int 0, .int 0, .int 0, .int 0, .ref m_gangOf_42, .ref m_pitchOf_43, .ref m_shareOf_44, .ref m_isSettled_45, .ref m_least_46, .ref m_greatest_47, .ref m_costs_48, .ref m_ahead_49, .ref m_pay_50, .int 0, .ref m_parcelTake_51, .ref m_parcelTons_52, .ref m_parcelGood_53, .int 0])), (m_low_27, .inl (cI_26, 48, .inl (fun _ => 0))), (m_high_28, .inl (cI_26, 48, .inl (fun _ => 1000))), (m_newLow_29, .inl (cI_26, 48, .inl (fun _ => 0))), (m_newHigh_30, .inl (cI_26, 48, .inl (fun _ => 0))), (m_sheetSize_31, .inl (cI_26, 4, .inl (fun _ => (-1)))), (m_sheetLane_32, .inl (cI_26, 4, .inl (fun _ => 0))), (m_sheet_33, .inl (cI_26, 192, .inl (fun _ => 0))), (m_fromX_35, .inl (cI_26, 12, .inl (fun _ => 0))), (m_fromY_36, .inl (cI_26, 12, .inl (fun _ => 0))), (m_toX_37, .inl (cI_26, 12, .inl (fun _ => 0))), (m_toY_38, .inl (cI_26, 12, .inl (fun _ => 0))), (m_tonsOf_39, .inl (cI_26, 12, .inl (fun _ => 0))), (m_sort_40, .inl (cI_26, 8, .inl (fun _ => 0)))]) (hS : va_S (fun q : Nat => s.heap.size ≤ q) s.heap H locs) (hl : lv_has ls 4 [(3, .int 0), (2, .ref qm), (1, .ref qx), (0, .ref b)]) : W p l e room_1 s m #[Value.ref b] below meth c H locs 48 1714 (lw_Z below #[Value.ref b] s) (F0 m 553 ls []) := by
  obtain ⟨hx, hb, hr, hml, hown, hts0, hX, hbl, hlocks, hgv⟩ := id C0
  have hA : ∀ q : Nat, s.heap.size ≤ q → (fun q : Nat => s.heap.size ≤ q) q := fun _ h => h
  have hbA : ¬ (fun q : Nat => s.heap.size ≤ q) b := Nat.not_le.mpr hbl
  have hts : ∀ w ∈ wsL_law, w.before #[Value.ref b] s = true := fun w h => hts0 w (wsL_law_in w h)
  refine lv_aload_n hx hb dL_law_553 rfl (lv_at hl 2 rfl) ?_
  refine lv_aload_n hx hb dL_law_554 rfl (lv_at hl 3 rfl) ?_
  refine lv_iload_n hx hb dL_law_555 rfl (lv_at hl 0 rfl) ?_
  refine lv_iconst (v := 1) hx hb dL_law_556 (by decide) ?_
  refine lv_iadd hx hb dL_law_557 ?_
  refine lv_topi (fun v1 ev1 => ?_)
  have ev1 : v1 = 1 := by rw [ev1]; decide
  subst ev1
  refine va_sld hx hb hX hbl hbA hS (by unfold vp_in; decide) dL_law_558 ?_
  refine W.eq (g2 := F0 m 559 ls [.int (xs 1), .ref qx]) rfl ?_
  refine lv_aload_n hx hb dL_law_559 rfl (lv_at hl 3 rfl) ?_
  refine lv_iload_n hx hb dL_law_560 rfl (lv_at hl 0 rfl) ?_
  refine lv_iconst (v := 2) hx hb dL_law_561 (by decide) ?_
  refine lv_iadd hx hb dL_law_562 ?_
  refine lv_topi (fun v2 ev2 => ?_)
  have ev2 : v2 = 2 := by rw [ev2]; decide
  subst ev2
  refine va_sld hx hb hX hbl hbA hS (by unfold vp_in; decide) dL_law_563 ?_
  refine W.eq (g2 := F0 m 564 ls [.int (xs 2), .int (xs 1), .ref qx]) rfl ?_
  have hPc := hP.sub (ws' := [(qx, .inr (10, [.ref ql_6, .ref pa_11, .ref ga_12, .ref ta_13, .ref pc_14, .ref sh_15, .ref tr_24, .int 0, .int 0, .int 0, .int 0, .null, .int 0]))]) [0] rfl
  have hDc := hD.sub (ws' := [(qx, .inr (10, [.ref ql_6, .ref pa_11, .ref ga_12, .ref ta_13, .ref pc_14, .ref sh_15, .ref tr_24, .int 0, .int 0, .int 0, .int 0, .null, .int 0]))]) [0] (by decide) rfl
  have hKc := hK.sub (tys' := []) [] rfl
  refine vp_callSi (va_Run.run (va_runV (As := [.int (xs 1), .int (xs 2)]) (rest := []) ⟨hx, hb, hml, hown, hts⟩ (c_X10_about l dC dI  _ qx (.ref ql_6) (.ref pa_11) (.ref ga_12) (.ref ta_13) (.ref pc_14) (.ref sh_15) (.ref tr_24) (.int 0) (.int 0) (.int 0) .null (.int 0) (xs 1) (xs 2) ) (cwV 2 hts gL_law_X10_about rfl rfl rfl (by decide +kernel) ⟨Nat.le_of_ble_eq_true rfl, Nat.le_of_ble_eq_true rfl⟩) (pw_preV (va_recv hKc hPc (ci := 10) (q0 := 0) rfl rfl) hPc hKc hDc hN) rfl rfl hl.1 rfl (lv_room (Nat.le_of_ble_eq_true rfl)) dL_law_564 ⟨Nat.le_of_ble_eq_true rfl, Nat.le_of_ble_eq_true rfl⟩)) (fun r3 hr3 => ?_)
  have hr3 : r3 = -1 := hr3
  refine lv_aload_n hx hb dL_law_567 rfl (lv_at hl 1 rfl) ?_
  refine lv_aload_n hx hb dL_law_568 rfl (lv_at hl 3 rfl) ?_
  refine lv_iload_n hx hb dL_law_569 rfl (lv_at hl 0 rfl) ?_
  refine lv_iconst (v := 1) hx hb dL_law_570 (by decide) ?_
  refine lv_iadd hx hb dL_law_571 ?_
  refine lv_topi (fun v4 ev4 => ?_)
  have ev4 : v4 = 1 := by rw [ev4]; decide
  subst ev4
  refine va_sld hx hb hX hbl hbA hS (by unfold vp_in; decide) dL_law_572 ?_
  refine W.eq (g2 := F0 m 573 ls [.int (xs 1), .ref qm, .int r3]) rfl ?_
  refine lv_aload_n hx hb dL_law_573 rfl (lv_at hl 3 rfl) ?_
  refine lv_iload_n hx hb dL_law_574 rfl (lv_at hl 0 rfl) ?_
  refine lv_iconst (v := 2) hx hb dL_law_575 (by decide) ?_
  refine lv_iadd hx hb dL_law_576 ?_
  refine lv_topi (fun v5 ev5 => ?_)
  have ev5 : v5 = 2 := by rw [ev5]; decide
  subst ev5
  refine va_sld hx hb hX hbl hbA hS (by unfold vp_in; decide) dL_law_577 ?_
  refine W.eq (g2 := F0 m 578 ls [.int (xs 2), .int (xs 1), .ref qm, .int r3]) rfl ?_
  have hPc := hP.sub (ws' := [(qm, .inr (11, [.int 0, .int 1000, .ref m_low_27, .ref m_high_28, .ref m_newLow_29, .ref m_newHigh_30, .int 0, .ref m_sheetSize_31, .ref m_sheetLane_32, .ref m_sheet_33, .ref m_hands_34, .int 0, .ref m_fromX_35, .ref m_fromY_36, .ref m_toX_37, .ref m_toY_38, .ref m_tonsOf_39, .int 0, .ref m_sort_40, .ref m_debt_41, .int (-9), .int 0, .int 0, .int 0, .int 0, .ref m_gangOf_42, .ref m_pitchOf_43, .ref m_shareOf_44, .ref m_isSettled_45, .ref m_least_46, .ref m_greatest_47, .ref m_costs_48, .ref m_ahead_49, .ref m_pay_50, .int 0, .ref m_parcelTake_51, .ref m_parcelTons_52, .ref m_parcelGood_53, .int 0]))]) [18] rfl
  have hDc := hD.sub (ws' := [(qm, .inr (11, [.int 0, .int 1000, .ref m_low_27, .ref m_high_28, .ref m_newLow_29, .ref m_newHigh_30, .int 0, .ref m_sheetSize_31, .ref m_sheetLane_32, .ref m_sheet_33, .ref m_hands_34, .int 0, .ref m_fromX_35, .ref m_fromY_36, .ref m_toX_37, .ref m_toY_38, .ref m_tonsOf_39, .int 0, .ref m_sort_40, .ref m_debt_41, .int (-9), .int 0, .int 0, .int 0, .int 0, .ref m_gangOf_42, .ref m_pitchOf_43, .ref m_shareOf_44, .ref m_isSettled_45, .ref m_least_46, .ref m_greatest_47, .ref m_costs_48, .ref m_ahead_49, .ref m_pay_50, .int 0, .ref m_parcelTake_51, .ref m_parcelTons_52, .ref m_parcelGood_53, .int 0]))]) [18] (by decide) rfl
  have hKc := hK.sub (tys' := []) [] rfl
  refine vp_callSi (va_Run.run (va_runV (As := [.int (xs 1), .int (xs 2)]) (rest := [.int r3]) ⟨hx, hb, hml, hown, hts⟩ (c_X11_about l dC dI  _ qm (.int 0) (.int 1000) (.ref m_low_27) (.ref m_high_28) (.ref m_newLow_29) (.ref m_newHigh_30) (.int 0) (.ref m_sheetSize_31) (.ref m_sheetLane_32) (.ref m_sheet_33) (.ref m_hands_34) (.ref m_fromX_35) (.ref m_fromY_36) (.ref m_toX_37) (.ref m_toY_38) (.ref m_tonsOf_39) (.int 0) (.ref m_sort_40) (.ref m_debt_41) (.int (-9)) (.int 0) (.int 0) (.int 0) (.int 0) (.ref m_gangOf_42) (.ref m_pitchOf_43) (.ref m_shareOf_44) (.ref m_isSettled_45) (.ref m_least_46) (.ref m_greatest_47) (.ref m_costs_48) (.ref m_ahead_49) (.ref m_pay_50) (.int 0) (.ref m_parcelTake_51) (.ref m_parcelTons_52) (.ref m_parcelGood_53) (.int 0) (xs 1) (xs 2) ) (cwV 2 hts gL_law_X11_about rfl rfl rfl (by decide +kernel) ⟨Nat.le_of_ble_eq_true rfl, Nat.le_of_ble_eq_true rfl⟩) (pw_preV (va_recv hKc hPc (ci := 11) (q0 := 0) rfl rfl) hPc hKc hDc hN) rfl rfl hl.1 rfl (lv_room (Nat.le_of_ble_eq_true rfl)) dL_law_578 ⟨Nat.le_of_ble_eq_true rfl, Nat.le_of_ble_eq_true rfl⟩)) (fun r6 hr6 => ?_)
  have hr6 : r6 = -1 := hr6
  refine lv_icmp_eq (tgt := 1202) hx hb dL_law_581 (by decide) (fun c7 => ?_) (fun c7 => ?_)
  · skip
    refine lv_iinc (v := 6) (lv' := [(3, .int 6), (2, .ref qm), (1, .ref qx), (0, .ref b)]) hx hb dL_law_1202 hl (k := 0) rfl (by decide) (by decide) rfl (fun ls hl => ?_)
    refine lv_goto (tgt := 18) hx hb dL_law_1205 (by decide) ?_
    refine lv_iload_n hx hb dL_law_18 rfl (lv_at hl 0 rfl) ?_
    refine lv_aload_n hx hb dL_law_19 rfl (lv_at hl 3 rfl) ?_
    refine va_slen hx hb hX hbl hbA hS dL_law_20 ?_
    refine W.eq (g2 := F0 m 21 ls [.int 6, .int 6]) rfl ?_
    refine lv_bipush (v := 6) hx hb dL_law_21 (by decide) ?_
    refine lv_isub hx hb dL_law_23 ?_
    refine lv_topi (fun v8 ev8 => ?_)
    have ev8 : v8 = 0 := by rw [ev8]; decide
    subst ev8
    refine lv_icmp_gt (tgt := 1208) hx hb dL_law_24 (by decide) (fun c9 => ?_) (fun c9 => ?_)
    · skip
      refine lv_iconst (v := 1) hx hb dL_law_1208 (by decide) ?_
      refine va_forget (fun q hq => hS.2.2 q hq) ?_
      refine W.widen (k := 600000) (n := 7302250) (Nat.le_of_ble_eq_true rfl) (Nat.le_of_ble_eq_true rfl) ?_
      exact lw_ret hx hb hr hlocks dL_law_1209
    · exact absurd c9 (by decide)
  · exact absurd c7 (not_not_intro (hr3.trans hr6.symm))
set_option maxHeartbeats 4000000 in
set_option maxRecDepth 100000 in
theorem law_586 {p : Program} {l : Launch} {e : Env} {s : State} {m : MethodId} {below : List Frame} {meth : Method} {c : Code} {b : Nat} {xs : Nat → Int32} {dC : Nat → ClassId} {dI : Nat → Nat → Nat} {cG_4 cI_2 cI_26 cP_3 cS_5 : ClassId} {qx ql_6 pa_11 ga_12 ta_13 pc_14 sh_15 tr_24 lw_7 hg_8 tl_9 th_10 t0_16 d0_20 t1_17 d1_21 t2_18 d2_22 t3_19 d3_23 qm m_low_27 m_high_28 m_newLow_29 m_newHigh_30 m_sheetSize_31 m_sheetLane_32 m_sheet_33 m_hands_34 m_fromX_35 m_fromY_36 m_toX_37 m_toY_38 m_tonsOf_39 m_sort_40 m_debt_41 m_gangOf_42 m_pitchOf_43 m_shareOf_44 m_isSettled_45 m_least_46 m_greatest_47 m_costs_48 m_ahead_49 m_pay_50 m_parcelTake_51 m_parcelTons_52 m_parcelGood_53 : Nat} {H : Heap} {locs : List Loc} {ls : Array Slot} (C0 : lw_At p s m meth c b 6 xs) (hN : nst s) (hK : va_K (dC, dI) vwCl [(cI_2, .int), (cP_3, .object RX6), (cG_4, .object RX2), (cS_5, .object RX7), (cI_26, .int)] s) (hP : va_P (dC, dI) vwCl [(qx, .inr (10, [.ref ql_6, .ref pa_11, .ref ga_12, .ref ta_13, .ref pc_14, .ref sh_15, .ref tr_24, .int 0, .int 0, .int 0, .int 0, .null, .int 0])), (ql_6, .inr (3, [.ref lw_7, .ref hg_8, .ref tl_9, .ref th_10, .int 1000])), (lw_7, .inl (cI_2, 48, .inl (fun _ => 0))), (hg_8, .inl (cI_2, 48, .inl (fun _ => 1000))), (tl_9, .inl (cI_2, 48, .inl (fun _ => 0))), (th_10, .inl (cI_2, 48, .inl (fun _ => 0))), (pa_11, .inl (cP_3, 12, .inr (.inr (.inr (.inr (fun _ => none)))))), (ga_12, .inl (cG_4, 8, .inr (.inr (.inr (.inr (fun _ => none)))))), (sh_15, .inl (cS_5, 4, .inr (.inr (.inr (.inr (sh4 t0_16 t1_17 t2_18 t3_19)))))), (t0_16, .inr (7, [.ref d0_20, .int (-1), .int 0])), (t1_17, .inr (7, [.ref d1_21, .int (-1), .int 0])), (t2_18, .inr (7, [.ref d2_22, .int (-1), .int 0])), (t3_19, .inr (7, [.ref d3_23, .int (-1), .int 0])), (d0_20, .inl (cI_2, 48, .inl (fun _ => 0))), (d1_21, .inl (cI_2, 48, .inl (fun _ => 0))), (d2_22, .inl (cI_2, 48, .inl (fun _ => 0))), (d3_23, .inl (cI_2, 48, .inl (fun _ => 0))), (tr_24, .inr (9, [.int 0])), (qm, .inr (11, [.int 0, .int 1000, .ref m_low_27, .ref m_high_28, .ref m_newLow_29, .ref m_newHigh_30, .int 0, .ref m_sheetSize_31, .ref m_sheetLane_32, .ref m_sheet_33, .ref m_hands_34, .int 0, .ref m_fromX_35, .ref m_fromY_36, .ref m_toX_37, .ref m_toY_38, .ref m_tonsOf_39, .int 0, .ref m_sort_40, .ref m_debt_41, .int (-9), .int 0, .int 0, .int 0, .int 0, .ref m_gangOf_42, .ref m_pitchOf_43, .ref m_shareOf_44, .ref m_isSettled_45, .ref m_least_46, .ref m_greatest_47, .ref m_costs_48, .ref m_ahead_49, .ref m_pay_50, .int 0, .ref m_parcelTake_51, .ref m_parcelTons_52, .ref m_parcelGood_53, .int 0])), (m_low_27, .inl (cI_26, 48, .inl (fun _ => 0))), (m_high_28, .inl (cI_26, 48, .inl (fun _ => 1000))), (m_newLow_29, .inl (cI_26, 48, .inl (fun _ => 0))), (m_newHigh_30, .inl (cI_26, 48, .inl (fun _ => 0))), (m_sheetSize_31, .inl (cI_26, 4, .inl (fun _ => (-1)))), (m_sheetLane_32, .inl (cI_26, 4, .inl (fun _ => 0))), (m_sheet_33, .inl (cI_26, 192, .inl (fun _ => 0))), (m_fromX_35, .inl (cI_26, 12, .inl (fun _ => 0))), (m_fromY_36, .inl (cI_26, 12, .inl (fun _ => 0))), (m_toX_37, .inl (cI_26, 12, .inl (fun _ => 0))), (m_toY_38, .inl (cI_26, 12, .inl (fun _ => 0))), (m_tonsOf_39, .inl (cI_26, 12, .inl (fun _ => 0))), (m_sort_40, .inl (cI_26, 8, .inl (fun _ => 0)))] H) (hD : va_D (fun q : Nat => s.heap.size ≤ q) [(qx, .inr (10, [.ref ql_6, .ref pa_11, .ref ga_12, .ref ta_13, .ref pc_14, .ref sh_15, .ref tr_24, .int 0, .int 0, .int 0, .int 0, .null, .int 0])), (ql_6, .inr (3, [.ref lw_7, .ref hg_8, .ref tl_9, .ref th_10, .int 1000])), (lw_7, .inl (cI_2, 48, .inl (fun _ => 0))), (hg_8, .inl (cI_2, 48, .inl (fun _ => 1000))), (tl_9, .inl (cI_2, 48, .inl (fun _ => 0))), (th_10, .inl (cI_2, 48, .inl (fun _ => 0))), (pa_11, .inl (cP_3, 12, .inr (.inr (.inr (.inr (fun _ => none)))))), (ga_12, .inl (cG_4, 8, .inr (.inr (.inr (.inr (fun _ => none)))))), (sh_15, .inl (cS_5, 4, .inr (.inr (.inr (.inr (sh4 t0_16 t1_17 t2_18 t3_19)))))), (t0_16, .inr (7, [.ref d0_20, .int (-1), .int 0])), (t1_17, .inr (7, [.ref d1_21, .int (-1), .int 0])), (t2_18, .inr (7, [.ref d2_22, .int (-1), .int 0])), (t3_19, .inr (7, [.ref d3_23, .int (-1), .int 0])), (d0_20, .inl (cI_2, 48, .inl (fun _ => 0))), (d1_21, .inl (cI_2, 48, .inl (fun _ => 0))), (d2_22, .inl (cI_2, 48, .inl (fun _ => 0))), (d3_23, .inl (cI_2, 48, .inl (fun _ => 0))), (tr_24, .inr (9, [.int 0])), (qm, .inr (11, [.int 0, .int 1000, .ref m_low_27, .ref m_high_28, .ref m_newLow_29, .ref m_newHigh_30, .int 0, .ref m_sheetSize_31, .ref m_sheetLane_32, .ref m_sheet_33, .ref m_hands_34, .int 0, .ref m_fromX_35, .ref m_fromY_36, .ref m_toX_37, .ref m_toY_38, .ref m_tonsOf_39, .int 0, .ref m_sort_40, .ref m_debt_41, .int (-9), .int 0, .int 0, .int 0, .int 0, .ref m_gangOf_42, .ref m_pitchOf_43, .ref m_shareOf_44, .ref m_isSettled_45, .ref m_least_46, .ref m_greatest_47, .ref m_costs_48, .ref m_ahead_49, .ref m_pay_50, .int 0, .ref m_parcelTake_51, .ref m_parcelTons_52, .ref m_parcelGood_53, .int 0])), (m_low_27, .inl (cI_26, 48, .inl (fun _ => 0))), (m_high_28, .inl (cI_26, 48, .inl (fun _ => 1000))), (m_newLow_29, .inl (cI_26, 48, .inl (fun _ => 0))), (m_newHigh_30, .inl (cI_26, 48, .inl (fun _ => 0))), (m_sheetSize_31, .inl (cI_26, 4, .inl (fun _ => (-1)))), (m_sheetLane_32, .inl (cI_26, 4, .inl (fun _ => 0))), (m_sheet_33, .inl (cI_26, 192, .inl (fun _ => 0))), (m_fromX_35, .inl (cI_26, 12, .inl (fun _ => 0))), (m_fromY_36, .inl (cI_26, 12, .inl (fun _ => 0))), (m_toX_37, .inl (cI_26, 12, .inl (fun _ => 0))), (m_toY_38, .inl (cI_26, 12, .inl (fun _ => 0))), (m_tonsOf_39, .inl (cI_26, 12, .inl (fun _ => 0))), (m_sort_40, .inl (cI_26, 8, .inl (fun _ => 0)))]) (hS : va_S (fun q : Nat => s.heap.size ≤ q) s.heap H locs) (hl : lv_has ls 4 [(3, .int 0), (2, .ref qm), (1, .ref qx), (0, .ref b)]) : W p l e room_1 s m #[Value.ref b] below meth c H locs 48 1714 (lw_Z below #[Value.ref b] s) (F0 m 586 ls []) := by
  obtain ⟨hx, hb, hr, hml, hown, hts0, hX, hbl, hlocks, hgv⟩ := id C0
  have hA : ∀ q : Nat, s.heap.size ≤ q → (fun q : Nat => s.heap.size ≤ q) q := fun _ h => h
  have hbA : ¬ (fun q : Nat => s.heap.size ≤ q) b := Nat.not_le.mpr hbl
  have hts : ∀ w ∈ wsL_law, w.before #[Value.ref b] s = true := fun w h => hts0 w (wsL_law_in w h)
  refine lv_aload_n hx hb dL_law_586 rfl (lv_at hl 2 rfl) ?_
  refine lv_aload_n hx hb dL_law_587 rfl (lv_at hl 3 rfl) ?_
  refine lv_iload_n hx hb dL_law_588 rfl (lv_at hl 0 rfl) ?_
  refine lv_iconst (v := 1) hx hb dL_law_589 (by decide) ?_
  refine lv_iadd hx hb dL_law_590 ?_
  refine lv_topi (fun v1 ev1 => ?_)
  have ev1 : v1 = 1 := by rw [ev1]; decide
  subst ev1
  refine va_sld hx hb hX hbl hbA hS (by unfold vp_in; decide) dL_law_591 ?_
  refine W.eq (g2 := F0 m 592 ls [.int (xs 1), .ref qx]) rfl ?_
  refine lv_aload_n hx hb dL_law_592 rfl (lv_at hl 3 rfl) ?_
  refine lv_iload_n hx hb dL_law_593 rfl (lv_at hl 0 rfl) ?_
  refine lv_iconst (v := 2) hx hb dL_law_594 (by decide) ?_
  refine lv_iadd hx hb dL_law_595 ?_
  refine lv_topi (fun v2 ev2 => ?_)
  have ev2 : v2 = 2 := by rw [ev2]; decide
  subst ev2
  refine va_sld hx hb hX hbl hbA hS (by unfold vp_in; decide) dL_law_596 ?_
  refine W.eq (g2 := F0 m 597 ls [.int (xs 2), .int (xs 1), .ref qx]) rfl ?_
  refine lv_aload_n hx hb dL_law_597 rfl (lv_at hl 3 rfl) ?_
  refine lv_iload_n hx hb dL_law_598 rfl (lv_at hl 0 rfl) ?_
  refine lv_iconst (v := 3) hx hb dL_law_599 (by decide) ?_
  refine lv_iadd hx hb dL_law_600 ?_
  refine lv_topi (fun v3 ev3 => ?_)
  have ev3 : v3 = 3 := by rw [ev3]; decide
  subst ev3
  refine va_sld hx hb hX hbl hbA hS (by unfold vp_in; decide) dL_law_601 ?_
  refine W.eq (g2 := F0 m 602 ls [.int (xs 3), .int (xs 2), .int (xs 1), .ref qx]) rfl ?_
  have hPc := hP.sub (ws' := [(qx, .inr (10, [.ref ql_6, .ref pa_11, .ref ga_12, .ref ta_13, .ref pc_14, .ref sh_15, .ref tr_24, .int 0, .int 0, .int 0, .int 0, .null, .int 0]))]) [0] rfl
  have hDc := hD.sub (ws' := [(qx, .inr (10, [.ref ql_6, .ref pa_11, .ref ga_12, .ref ta_13, .ref pc_14, .ref sh_15, .ref tr_24, .int 0, .int 0, .int 0, .int 0, .null, .int 0]))]) [0] (by decide) rfl
  have hKc := hK.sub (tys' := []) [] rfl
  refine vp_callSi (va_Run.run (va_runV (As := [.int (xs 1), .int (xs 2), .int (xs 3)]) (rest := []) ⟨hx, hb, hml, hown, hts⟩ (c_X10_parcel l dC dI  _ qx (.ref ql_6) (.ref pa_11) (.ref ga_12) (.ref ta_13) (.ref pc_14) (.ref sh_15) (.ref tr_24) (.int 0) (.int 0) (.int 0) .null (.int 0) (xs 1) (xs 2) (xs 3) ) (cwV 3 hts gL_law_X10_parcel rfl rfl rfl (by decide +kernel) ⟨Nat.le_of_ble_eq_true rfl, Nat.le_of_ble_eq_true rfl⟩) (pw_preV (va_recv hKc hPc (ci := 10) (q0 := 0) rfl rfl) hPc hKc hDc hN) rfl rfl hl.1 rfl (lv_room (Nat.le_of_ble_eq_true rfl)) dL_law_602 ⟨Nat.le_of_ble_eq_true rfl, Nat.le_of_ble_eq_true rfl⟩)) (fun r4 hr4 => ?_)
  have hr4 : r4 = -1 := hr4
  refine lv_aload_n hx hb dL_law_605 rfl (lv_at hl 1 rfl) ?_
  refine lv_aload_n hx hb dL_law_606 rfl (lv_at hl 3 rfl) ?_
  refine lv_iload_n hx hb dL_law_607 rfl (lv_at hl 0 rfl) ?_
  refine lv_iconst (v := 1) hx hb dL_law_608 (by decide) ?_
  refine lv_iadd hx hb dL_law_609 ?_
  refine lv_topi (fun v5 ev5 => ?_)
  have ev5 : v5 = 1 := by rw [ev5]; decide
  subst ev5
  refine va_sld hx hb hX hbl hbA hS (by unfold vp_in; decide) dL_law_610 ?_
  refine W.eq (g2 := F0 m 611 ls [.int (xs 1), .ref qm, .int r4]) rfl ?_
  refine lv_aload_n hx hb dL_law_611 rfl (lv_at hl 3 rfl) ?_
  refine lv_iload_n hx hb dL_law_612 rfl (lv_at hl 0 rfl) ?_
  refine lv_iconst (v := 2) hx hb dL_law_613 (by decide) ?_
  refine lv_iadd hx hb dL_law_614 ?_
  refine lv_topi (fun v6 ev6 => ?_)
  have ev6 : v6 = 2 := by rw [ev6]; decide
  subst ev6
  refine va_sld hx hb hX hbl hbA hS (by unfold vp_in; decide) dL_law_615 ?_
  refine W.eq (g2 := F0 m 616 ls [.int (xs 2), .int (xs 1), .ref qm, .int r4]) rfl ?_
  refine lv_aload_n hx hb dL_law_616 rfl (lv_at hl 3 rfl) ?_
  refine lv_iload_n hx hb dL_law_617 rfl (lv_at hl 0 rfl) ?_
  refine lv_iconst (v := 3) hx hb dL_law_618 (by decide) ?_
  refine lv_iadd hx hb dL_law_619 ?_
  refine lv_topi (fun v7 ev7 => ?_)
  have ev7 : v7 = 3 := by rw [ev7]; decide
  subst ev7
  refine va_sld hx hb hX hbl hbA hS (by unfold vp_in; decide) dL_law_620 ?_
  refine W.eq (g2 := F0 m 621 ls [.int (xs 3), .int (xs 2), .int (xs 1), .ref qm, .int r4]) rfl ?_
  have hPc := hP.sub (ws' := [(qm, .inr (11, [.int 0, .int 1000, .ref m_low_27, .ref m_high_28, .ref m_newLow_29, .ref m_newHigh_30, .int 0, .ref m_sheetSize_31, .ref m_sheetLane_32, .ref m_sheet_33, .ref m_hands_34, .int 0, .ref m_fromX_35, .ref m_fromY_36, .ref m_toX_37, .ref m_toY_38, .ref m_tonsOf_39, .int 0, .ref m_sort_40, .ref m_debt_41, .int (-9), .int 0, .int 0, .int 0, .int 0, .ref m_gangOf_42, .ref m_pitchOf_43, .ref m_shareOf_44, .ref m_isSettled_45, .ref m_least_46, .ref m_greatest_47, .ref m_costs_48, .ref m_ahead_49, .ref m_pay_50, .int 0, .ref m_parcelTake_51, .ref m_parcelTons_52, .ref m_parcelGood_53, .int 0]))]) [18] rfl
  have hDc := hD.sub (ws' := [(qm, .inr (11, [.int 0, .int 1000, .ref m_low_27, .ref m_high_28, .ref m_newLow_29, .ref m_newHigh_30, .int 0, .ref m_sheetSize_31, .ref m_sheetLane_32, .ref m_sheet_33, .ref m_hands_34, .int 0, .ref m_fromX_35, .ref m_fromY_36, .ref m_toX_37, .ref m_toY_38, .ref m_tonsOf_39, .int 0, .ref m_sort_40, .ref m_debt_41, .int (-9), .int 0, .int 0, .int 0, .int 0, .ref m_gangOf_42, .ref m_pitchOf_43, .ref m_shareOf_44, .ref m_isSettled_45, .ref m_least_46, .ref m_greatest_47, .ref m_costs_48, .ref m_ahead_49, .ref m_pay_50, .int 0, .ref m_parcelTake_51, .ref m_parcelTons_52, .ref m_parcelGood_53, .int 0]))]) [18] (by decide) rfl
  have hKc := hK.sub (tys' := []) [] rfl
  refine vp_callSi (va_Run.run (va_runV (As := [.int (xs 1), .int (xs 2), .int (xs 3)]) (rest := [.int r4]) ⟨hx, hb, hml, hown, hts⟩ (c_X11_parcel l dC dI  _ qm (.int 0) (.int 1000) (.ref m_low_27) (.ref m_high_28) (.ref m_newLow_29) (.ref m_newHigh_30) (.int 0) (.ref m_sheetSize_31) (.ref m_sheetLane_32) (.ref m_sheet_33) (.ref m_hands_34) (.int 0) (.ref m_fromX_35) (.ref m_fromY_36) (.ref m_toX_37) (.ref m_toY_38) (.ref m_tonsOf_39) (.int 0) (.ref m_sort_40) (.ref m_debt_41) (.int (-9)) (.int 0) (.int 0) (.int 0) (.ref m_gangOf_42) (.ref m_pitchOf_43) (.ref m_shareOf_44) (.ref m_isSettled_45) (.ref m_least_46) (.ref m_greatest_47) (.ref m_costs_48) (.ref m_ahead_49) (.ref m_pay_50) (.int 0) (.ref m_parcelTake_51) (.ref m_parcelTons_52) (.ref m_parcelGood_53) (.int 0) (xs 1) (xs 2) (xs 3) ) (cwV 3 hts gL_law_X11_parcel rfl rfl rfl (by decide +kernel) ⟨Nat.le_of_ble_eq_true rfl, Nat.le_of_ble_eq_true rfl⟩) (pw_preV (va_recv hKc hPc (ci := 11) (q0 := 0) rfl rfl) hPc hKc hDc hN) rfl rfl hl.1 rfl (lv_room (Nat.le_of_ble_eq_true rfl)) dL_law_621 ⟨Nat.le_of_ble_eq_true rfl, Nat.le_of_ble_eq_true rfl⟩)) (fun r8 hr8 => ?_)
  have hr8 : r8 = -1 := hr8
  refine lv_icmp_eq (tgt := 1202) hx hb dL_law_624 (by decide) (fun c9 => ?_) (fun c9 => ?_)
  · skip
    refine lv_iinc (v := 6) (lv' := [(3, .int 6), (2, .ref qm), (1, .ref qx), (0, .ref b)]) hx hb dL_law_1202 hl (k := 0) rfl (by decide) (by decide) rfl (fun ls hl => ?_)
    refine lv_goto (tgt := 18) hx hb dL_law_1205 (by decide) ?_
    refine lv_iload_n hx hb dL_law_18 rfl (lv_at hl 0 rfl) ?_
    refine lv_aload_n hx hb dL_law_19 rfl (lv_at hl 3 rfl) ?_
    refine va_slen hx hb hX hbl hbA hS dL_law_20 ?_
    refine W.eq (g2 := F0 m 21 ls [.int 6, .int 6]) rfl ?_
    refine lv_bipush (v := 6) hx hb dL_law_21 (by decide) ?_
    refine lv_isub hx hb dL_law_23 ?_
    refine lv_topi (fun v10 ev10 => ?_)
    have ev10 : v10 = 0 := by rw [ev10]; decide
    subst ev10
    refine lv_icmp_gt (tgt := 1208) hx hb dL_law_24 (by decide) (fun c11 => ?_) (fun c11 => ?_)
    · skip
      refine lv_iconst (v := 1) hx hb dL_law_1208 (by decide) ?_
      refine va_forget (fun q hq => hS.2.2 q hq) ?_
      refine W.widen (k := 600000) (n := 7302250) (Nat.le_of_ble_eq_true rfl) (Nat.le_of_ble_eq_true rfl) ?_
      exact lw_ret hx hb hr hlocks dL_law_1209
    · exact absurd c11 (by decide)
  · exact absurd c9 (not_not_intro (hr4.trans hr8.symm))
set_option maxHeartbeats 4000000 in
set_option maxRecDepth 100000 in
theorem law_629 {p : Program} {l : Launch} {e : Env} {s : State} {m : MethodId} {below : List Frame} {meth : Method} {c : Code} {b : Nat} {xs : Nat → Int32} {dC : Nat → ClassId} {dI : Nat → Nat → Nat} {cG_4 cI_2 cI_26 cP_3 cS_5 : ClassId} {qx ql_6 pa_11 ga_12 ta_13 pc_14 sh_15 tr_24 lw_7 hg_8 tl_9 th_10 t0_16 d0_20 t1_17 d1_21 t2_18 d2_22 t3_19 d3_23 qm m_low_27 m_high_28 m_newLow_29 m_newHigh_30 m_sheetSize_31 m_sheetLane_32 m_sheet_33 m_hands_34 m_fromX_35 m_fromY_36 m_toX_37 m_toY_38 m_tonsOf_39 m_sort_40 m_debt_41 m_gangOf_42 m_pitchOf_43 m_shareOf_44 m_isSettled_45 m_least_46 m_greatest_47 m_costs_48 m_ahead_49 m_pay_50 m_parcelTake_51 m_parcelTons_52 m_parcelGood_53 : Nat} {H : Heap} {locs : List Loc} {ls : Array Slot} (C0 : lw_At p s m meth c b 6 xs) (hN : nst s) (hK : va_K (dC, dI) vwCl [(cI_2, .int), (cP_3, .object RX6), (cG_4, .object RX2), (cS_5, .object RX7), (cI_26, .int)] s) (hP : va_P (dC, dI) vwCl [(qx, .inr (10, [.ref ql_6, .ref pa_11, .ref ga_12, .ref ta_13, .ref pc_14, .ref sh_15, .ref tr_24, .int 0, .int 0, .int 0, .int 0, .null, .int 0])), (ql_6, .inr (3, [.ref lw_7, .ref hg_8, .ref tl_9, .ref th_10, .int 1000])), (lw_7, .inl (cI_2, 48, .inl (fun _ => 0))), (hg_8, .inl (cI_2, 48, .inl (fun _ => 1000))), (tl_9, .inl (cI_2, 48, .inl (fun _ => 0))), (th_10, .inl (cI_2, 48, .inl (fun _ => 0))), (pa_11, .inl (cP_3, 12, .inr (.inr (.inr (.inr (fun _ => none)))))), (ga_12, .inl (cG_4, 8, .inr (.inr (.inr (.inr (fun _ => none)))))), (sh_15, .inl (cS_5, 4, .inr (.inr (.inr (.inr (sh4 t0_16 t1_17 t2_18 t3_19)))))), (t0_16, .inr (7, [.ref d0_20, .int (-1), .int 0])), (t1_17, .inr (7, [.ref d1_21, .int (-1), .int 0])), (t2_18, .inr (7, [.ref d2_22, .int (-1), .int 0])), (t3_19, .inr (7, [.ref d3_23, .int (-1), .int 0])), (d0_20, .inl (cI_2, 48, .inl (fun _ => 0))), (d1_21, .inl (cI_2, 48, .inl (fun _ => 0))), (d2_22, .inl (cI_2, 48, .inl (fun _ => 0))), (d3_23, .inl (cI_2, 48, .inl (fun _ => 0))), (tr_24, .inr (9, [.int 0])), (qm, .inr (11, [.int 0, .int 1000, .ref m_low_27, .ref m_high_28, .ref m_newLow_29, .ref m_newHigh_30, .int 0, .ref m_sheetSize_31, .ref m_sheetLane_32, .ref m_sheet_33, .ref m_hands_34, .int 0, .ref m_fromX_35, .ref m_fromY_36, .ref m_toX_37, .ref m_toY_38, .ref m_tonsOf_39, .int 0, .ref m_sort_40, .ref m_debt_41, .int (-9), .int 0, .int 0, .int 0, .int 0, .ref m_gangOf_42, .ref m_pitchOf_43, .ref m_shareOf_44, .ref m_isSettled_45, .ref m_least_46, .ref m_greatest_47, .ref m_costs_48, .ref m_ahead_49, .ref m_pay_50, .int 0, .ref m_parcelTake_51, .ref m_parcelTons_52, .ref m_parcelGood_53, .int 0])), (m_low_27, .inl (cI_26, 48, .inl (fun _ => 0))), (m_high_28, .inl (cI_26, 48, .inl (fun _ => 1000))), (m_newLow_29, .inl (cI_26, 48, .inl (fun _ => 0))), (m_newHigh_30, .inl (cI_26, 48, .inl (fun _ => 0))), (m_sheetSize_31, .inl (cI_26, 4, .inl (fun _ => (-1)))), (m_sheetLane_32, .inl (cI_26, 4, .inl (fun _ => 0))), (m_sheet_33, .inl (cI_26, 192, .inl (fun _ => 0))), (m_fromX_35, .inl (cI_26, 12, .inl (fun _ => 0))), (m_fromY_36, .inl (cI_26, 12, .inl (fun _ => 0))), (m_toX_37, .inl (cI_26, 12, .inl (fun _ => 0))), (m_toY_38, .inl (cI_26, 12, .inl (fun _ => 0))), (m_tonsOf_39, .inl (cI_26, 12, .inl (fun _ => 0))), (m_sort_40, .inl (cI_26, 8, .inl (fun _ => 0)))] H) (hD : va_D (fun q : Nat => s.heap.size ≤ q) [(qx, .inr (10, [.ref ql_6, .ref pa_11, .ref ga_12, .ref ta_13, .ref pc_14, .ref sh_15, .ref tr_24, .int 0, .int 0, .int 0, .int 0, .null, .int 0])), (ql_6, .inr (3, [.ref lw_7, .ref hg_8, .ref tl_9, .ref th_10, .int 1000])), (lw_7, .inl (cI_2, 48, .inl (fun _ => 0))), (hg_8, .inl (cI_2, 48, .inl (fun _ => 1000))), (tl_9, .inl (cI_2, 48, .inl (fun _ => 0))), (th_10, .inl (cI_2, 48, .inl (fun _ => 0))), (pa_11, .inl (cP_3, 12, .inr (.inr (.inr (.inr (fun _ => none)))))), (ga_12, .inl (cG_4, 8, .inr (.inr (.inr (.inr (fun _ => none)))))), (sh_15, .inl (cS_5, 4, .inr (.inr (.inr (.inr (sh4 t0_16 t1_17 t2_18 t3_19)))))), (t0_16, .inr (7, [.ref d0_20, .int (-1), .int 0])), (t1_17, .inr (7, [.ref d1_21, .int (-1), .int 0])), (t2_18, .inr (7, [.ref d2_22, .int (-1), .int 0])), (t3_19, .inr (7, [.ref d3_23, .int (-1), .int 0])), (d0_20, .inl (cI_2, 48, .inl (fun _ => 0))), (d1_21, .inl (cI_2, 48, .inl (fun _ => 0))), (d2_22, .inl (cI_2, 48, .inl (fun _ => 0))), (d3_23, .inl (cI_2, 48, .inl (fun _ => 0))), (tr_24, .inr (9, [.int 0])), (qm, .inr (11, [.int 0, .int 1000, .ref m_low_27, .ref m_high_28, .ref m_newLow_29, .ref m_newHigh_30, .int 0, .ref m_sheetSize_31, .ref m_sheetLane_32, .ref m_sheet_33, .ref m_hands_34, .int 0, .ref m_fromX_35, .ref m_fromY_36, .ref m_toX_37, .ref m_toY_38, .ref m_tonsOf_39, .int 0, .ref m_sort_40, .ref m_debt_41, .int (-9), .int 0, .int 0, .int 0, .int 0, .ref m_gangOf_42, .ref m_pitchOf_43, .ref m_shareOf_44, .ref m_isSettled_45, .ref m_least_46, .ref m_greatest_47, .ref m_costs_48, .ref m_ahead_49, .ref m_pay_50, .int 0, .ref m_parcelTake_51, .ref m_parcelTons_52, .ref m_parcelGood_53, .int 0])), (m_low_27, .inl (cI_26, 48, .inl (fun _ => 0))), (m_high_28, .inl (cI_26, 48, .inl (fun _ => 1000))), (m_newLow_29, .inl (cI_26, 48, .inl (fun _ => 0))), (m_newHigh_30, .inl (cI_26, 48, .inl (fun _ => 0))), (m_sheetSize_31, .inl (cI_26, 4, .inl (fun _ => (-1)))), (m_sheetLane_32, .inl (cI_26, 4, .inl (fun _ => 0))), (m_sheet_33, .inl (cI_26, 192, .inl (fun _ => 0))), (m_fromX_35, .inl (cI_26, 12, .inl (fun _ => 0))), (m_fromY_36, .inl (cI_26, 12, .inl (fun _ => 0))), (m_toX_37, .inl (cI_26, 12, .inl (fun _ => 0))), (m_toY_38, .inl (cI_26, 12, .inl (fun _ => 0))), (m_tonsOf_39, .inl (cI_26, 12, .inl (fun _ => 0))), (m_sort_40, .inl (cI_26, 8, .inl (fun _ => 0)))]) (hS : va_S (fun q : Nat => s.heap.size ≤ q) s.heap H locs) (hl : lv_has ls 4 [(3, .int 0), (2, .ref qm), (1, .ref qx), (0, .ref b)]) : W p l e room_1 s m #[Value.ref b] below meth c H locs 48 1714 (lw_Z below #[Value.ref b] s) (F0 m 629 ls []) := by
  obtain ⟨hx, hb, hr, hml, hown, hts0, hX, hbl, hlocks, hgv⟩ := id C0
  have hA : ∀ q : Nat, s.heap.size ≤ q → (fun q : Nat => s.heap.size ≤ q) q := fun _ h => h
  have hbA : ¬ (fun q : Nat => s.heap.size ≤ q) b := Nat.not_le.mpr hbl
  have hts : ∀ w ∈ wsL_law, w.before #[Value.ref b] s = true := fun w h => hts0 w (wsL_law_in w h)
  refine lv_aload_n hx hb dL_law_629 rfl (lv_at hl 2 rfl) ?_
  refine lv_aload_n hx hb dL_law_630 rfl (lv_at hl 3 rfl) ?_
  refine lv_iload_n hx hb dL_law_631 rfl (lv_at hl 0 rfl) ?_
  refine lv_iconst (v := 1) hx hb dL_law_632 (by decide) ?_
  refine lv_iadd hx hb dL_law_633 ?_
  refine lv_topi (fun v1 ev1 => ?_)
  have ev1 : v1 = 1 := by rw [ev1]; decide
  subst ev1
  refine va_sld hx hb hX hbl hbA hS (by unfold vp_in; decide) dL_law_634 ?_
  refine W.eq (g2 := F0 m 635 ls [.int (xs 1), .ref qx]) rfl ?_
  refine lv_aload_n hx hb dL_law_635 rfl (lv_at hl 3 rfl) ?_
  refine lv_iload_n hx hb dL_law_636 rfl (lv_at hl 0 rfl) ?_
  refine lv_iconst (v := 2) hx hb dL_law_637 (by decide) ?_
  refine lv_iadd hx hb dL_law_638 ?_
  refine lv_topi (fun v2 ev2 => ?_)
  have ev2 : v2 = 2 := by rw [ev2]; decide
  subst ev2
  refine va_sld hx hb hX hbl hbA hS (by unfold vp_in; decide) dL_law_639 ?_
  refine W.eq (g2 := F0 m 640 ls [.int (xs 2), .int (xs 1), .ref qx]) rfl ?_
  refine lv_aload_n hx hb dL_law_640 rfl (lv_at hl 3 rfl) ?_
  refine lv_iload_n hx hb dL_law_641 rfl (lv_at hl 0 rfl) ?_
  refine lv_iconst (v := 3) hx hb dL_law_642 (by decide) ?_
  refine lv_iadd hx hb dL_law_643 ?_
  refine lv_topi (fun v3 ev3 => ?_)
  have ev3 : v3 = 3 := by rw [ev3]; decide
  subst ev3
  refine va_sld hx hb hX hbl hbA hS (by unfold vp_in; decide) dL_law_644 ?_
  refine W.eq (g2 := F0 m 645 ls [.int (xs 3), .int (xs 2), .int (xs 1), .ref qx]) rfl ?_
  have hPc := hP.sub (ws' := [(qx, .inr (10, [.ref ql_6, .ref pa_11, .ref ga_12, .ref ta_13, .ref pc_14, .ref sh_15, .ref tr_24, .int 0, .int 0, .int 0, .int 0, .null, .int 0]))]) [0] rfl
  have hDc := hD.sub (ws' := [(qx, .inr (10, [.ref ql_6, .ref pa_11, .ref ga_12, .ref ta_13, .ref pc_14, .ref sh_15, .ref tr_24, .int 0, .int 0, .int 0, .int 0, .null, .int 0]))]) [0] (by decide) rfl
  have hKc := hK.sub (tys' := []) [] rfl
  refine vp_callSl (va_Run.run (va_runV (As := [.int (xs 1), .int (xs 2), .int (xs 3)]) (rest := []) ⟨hx, hb, hml, hown, hts⟩ (c_X10_spend l dC dI  _ qx (.ref ql_6) (.ref pa_11) (.ref ga_12) (.ref ta_13) (.ref pc_14) (.ref sh_15) (.ref tr_24) (.int 0) (.int 0) (.int 0) .null (.int 0) (xs 1) (xs 2) (xs 3) ) (cwV 3 hts gL_law_X10_spend rfl rfl rfl (by decide +kernel) ⟨Nat.le_of_ble_eq_true rfl, Nat.le_of_ble_eq_true rfl⟩) (pw_preV (va_recv hKc hPc (ci := 10) (q0 := 0) rfl rfl) hPc hKc hDc hN) rfl rfl hl.1 rfl (lv_room (Nat.le_of_ble_eq_true rfl)) dL_law_645 ⟨Nat.le_of_ble_eq_true rfl, Nat.le_of_ble_eq_true rfl⟩)) (fun r4 hr4 => ?_)
  have hr4 : r4 = (-9223372036854775808) := hr4
  refine lv_aload_n hx hb dL_law_648 rfl (lv_at hl 1 rfl) ?_
  refine lv_aload_n hx hb dL_law_649 rfl (lv_at hl 3 rfl) ?_
  refine lv_iload_n hx hb dL_law_650 rfl (lv_at hl 0 rfl) ?_
  refine lv_iconst (v := 1) hx hb dL_law_651 (by decide) ?_
  refine lv_iadd hx hb dL_law_652 ?_
  refine lv_topi (fun v5 ev5 => ?_)
  have ev5 : v5 = 1 := by rw [ev5]; decide
  subst ev5
  refine va_sld hx hb hX hbl hbA hS (by unfold vp_in; decide) dL_law_653 ?_
  refine W.eq (g2 := F0 m 654 ls [.int (xs 1), .ref qm, .long r4]) rfl ?_
  refine lv_aload_n hx hb dL_law_654 rfl (lv_at hl 3 rfl) ?_
  refine lv_iload_n hx hb dL_law_655 rfl (lv_at hl 0 rfl) ?_
  refine lv_iconst (v := 2) hx hb dL_law_656 (by decide) ?_
  refine lv_iadd hx hb dL_law_657 ?_
  refine lv_topi (fun v6 ev6 => ?_)
  have ev6 : v6 = 2 := by rw [ev6]; decide
  subst ev6
  refine va_sld hx hb hX hbl hbA hS (by unfold vp_in; decide) dL_law_658 ?_
  refine W.eq (g2 := F0 m 659 ls [.int (xs 2), .int (xs 1), .ref qm, .long r4]) rfl ?_
  refine lv_aload_n hx hb dL_law_659 rfl (lv_at hl 3 rfl) ?_
  refine lv_iload_n hx hb dL_law_660 rfl (lv_at hl 0 rfl) ?_
  refine lv_iconst (v := 3) hx hb dL_law_661 (by decide) ?_
  refine lv_iadd hx hb dL_law_662 ?_
  refine lv_topi (fun v7 ev7 => ?_)
  have ev7 : v7 = 3 := by rw [ev7]; decide
  subst ev7
  refine va_sld hx hb hX hbl hbA hS (by unfold vp_in; decide) dL_law_663 ?_
  refine W.eq (g2 := F0 m 664 ls [.int (xs 3), .int (xs 2), .int (xs 1), .ref qm, .long r4]) rfl ?_
  have hPc := hP.sub (ws' := [(qm, .inr (11, [.int 0, .int 1000, .ref m_low_27, .ref m_high_28, .ref m_newLow_29, .ref m_newHigh_30, .int 0, .ref m_sheetSize_31, .ref m_sheetLane_32, .ref m_sheet_33, .ref m_hands_34, .int 0, .ref m_fromX_35, .ref m_fromY_36, .ref m_toX_37, .ref m_toY_38, .ref m_tonsOf_39, .int 0, .ref m_sort_40, .ref m_debt_41, .int (-9), .int 0, .int 0, .int 0, .int 0, .ref m_gangOf_42, .ref m_pitchOf_43, .ref m_shareOf_44, .ref m_isSettled_45, .ref m_least_46, .ref m_greatest_47, .ref m_costs_48, .ref m_ahead_49, .ref m_pay_50, .int 0, .ref m_parcelTake_51, .ref m_parcelTons_52, .ref m_parcelGood_53, .int 0]))]) [18] rfl
  have hDc := hD.sub (ws' := [(qm, .inr (11, [.int 0, .int 1000, .ref m_low_27, .ref m_high_28, .ref m_newLow_29, .ref m_newHigh_30, .int 0, .ref m_sheetSize_31, .ref m_sheetLane_32, .ref m_sheet_33, .ref m_hands_34, .int 0, .ref m_fromX_35, .ref m_fromY_36, .ref m_toX_37, .ref m_toY_38, .ref m_tonsOf_39, .int 0, .ref m_sort_40, .ref m_debt_41, .int (-9), .int 0, .int 0, .int 0, .int 0, .ref m_gangOf_42, .ref m_pitchOf_43, .ref m_shareOf_44, .ref m_isSettled_45, .ref m_least_46, .ref m_greatest_47, .ref m_costs_48, .ref m_ahead_49, .ref m_pay_50, .int 0, .ref m_parcelTake_51, .ref m_parcelTons_52, .ref m_parcelGood_53, .int 0]))]) [18] (by decide) rfl
  have hKc := hK.sub (tys' := []) [] rfl
  refine vp_callSl (va_Run.run (va_runV (As := [.int (xs 1), .int (xs 2), .int (xs 3)]) (rest := [.long r4]) ⟨hx, hb, hml, hown, hts⟩ (c_X11_spend l dC dI  _ qm (.int 0) (.int 1000) (.ref m_low_27) (.ref m_high_28) (.ref m_newLow_29) (.ref m_newHigh_30) (.int 0) (.ref m_sheetSize_31) (.ref m_sheetLane_32) (.ref m_sheet_33) (.ref m_hands_34) (.int 0) (.ref m_fromX_35) (.ref m_fromY_36) (.ref m_toX_37) (.ref m_toY_38) (.ref m_tonsOf_39) (.int 0) (.ref m_sort_40) (.ref m_debt_41) (.int (-9)) (.int 0) (.int 0) (.int 0) (.ref m_gangOf_42) (.ref m_pitchOf_43) (.ref m_shareOf_44) (.ref m_isSettled_45) (.ref m_least_46) (.ref m_greatest_47) (.ref m_costs_48) (.ref m_ahead_49) (.ref m_pay_50) (.int 0) (.ref m_parcelTake_51) (.ref m_parcelTons_52) (.ref m_parcelGood_53) (.int 0) (xs 1) (xs 2) (xs 3) ) (cwV 3 hts gL_law_X11_spend rfl rfl rfl (by decide +kernel) ⟨Nat.le_of_ble_eq_true rfl, Nat.le_of_ble_eq_true rfl⟩) (pw_preV (va_recv hKc hPc (ci := 11) (q0 := 0) rfl rfl) hPc hKc hDc hN) rfl rfl hl.1 rfl (lv_room (Nat.le_of_ble_eq_true rfl)) dL_law_664 ⟨Nat.le_of_ble_eq_true rfl, Nat.le_of_ble_eq_true rfl⟩)) (fun r8 hr8 => ?_)
  have hr8 : r8 = (-9223372036854775808) := hr8
  refine W.lcmp hx hb dL_law_667 ?_
  refine lv_if_eq (tgt := 1202) hx hb dL_law_668 (by decide) (fun c9 => ?_) (fun c9 => ?_)
  · skip
    have c9 := (lg_cmp_eq _ _).mp c9
    refine lv_iinc (v := 6) (lv' := [(3, .int 6), (2, .ref qm), (1, .ref qx), (0, .ref b)]) hx hb dL_law_1202 hl (k := 0) rfl (by decide) (by decide) rfl (fun ls hl => ?_)
    refine lv_goto (tgt := 18) hx hb dL_law_1205 (by decide) ?_
    refine lv_iload_n hx hb dL_law_18 rfl (lv_at hl 0 rfl) ?_
    refine lv_aload_n hx hb dL_law_19 rfl (lv_at hl 3 rfl) ?_
    refine va_slen hx hb hX hbl hbA hS dL_law_20 ?_
    refine W.eq (g2 := F0 m 21 ls [.int 6, .int 6]) rfl ?_
    refine lv_bipush (v := 6) hx hb dL_law_21 (by decide) ?_
    refine lv_isub hx hb dL_law_23 ?_
    refine lv_topi (fun v10 ev10 => ?_)
    have ev10 : v10 = 0 := by rw [ev10]; decide
    subst ev10
    refine lv_icmp_gt (tgt := 1208) hx hb dL_law_24 (by decide) (fun c11 => ?_) (fun c11 => ?_)
    · skip
      refine lv_iconst (v := 1) hx hb dL_law_1208 (by decide) ?_
      refine va_forget (fun q hq => hS.2.2 q hq) ?_
      refine W.widen (k := 600000) (n := 7302250) (Nat.le_of_ble_eq_true rfl) (Nat.le_of_ble_eq_true rfl) ?_
      exact lw_ret hx hb hr hlocks dL_law_1209
    · exact absurd c11 (by decide)
  · exact absurd c9 (not_not_intro ((lg_cmp_eq _ _).mpr (hr4.trans hr8.symm)))
set_option maxHeartbeats 4000000 in
set_option maxRecDepth 100000 in
theorem law_673 {p : Program} {l : Launch} {e : Env} {s : State} {m : MethodId} {below : List Frame} {meth : Method} {c : Code} {b : Nat} {xs : Nat → Int32} {dC : Nat → ClassId} {dI : Nat → Nat → Nat} {cG_4 cI_2 cI_26 cP_3 cS_5 : ClassId} {qx ql_6 pa_11 ga_12 ta_13 pc_14 sh_15 tr_24 lw_7 hg_8 tl_9 th_10 t0_16 d0_20 t1_17 d1_21 t2_18 d2_22 t3_19 d3_23 qm m_low_27 m_high_28 m_newLow_29 m_newHigh_30 m_sheetSize_31 m_sheetLane_32 m_sheet_33 m_hands_34 m_fromX_35 m_fromY_36 m_toX_37 m_toY_38 m_tonsOf_39 m_sort_40 m_debt_41 m_gangOf_42 m_pitchOf_43 m_shareOf_44 m_isSettled_45 m_least_46 m_greatest_47 m_costs_48 m_ahead_49 m_pay_50 m_parcelTake_51 m_parcelTons_52 m_parcelGood_53 : Nat} {H : Heap} {locs : List Loc} {ls : Array Slot} (C0 : lw_At p s m meth c b 6 xs) (hN : nst s) (hK : va_K (dC, dI) vwCl [(cI_2, .int), (cP_3, .object RX6), (cG_4, .object RX2), (cS_5, .object RX7), (cI_26, .int)] s) (hP : va_P (dC, dI) vwCl [(qx, .inr (10, [.ref ql_6, .ref pa_11, .ref ga_12, .ref ta_13, .ref pc_14, .ref sh_15, .ref tr_24, .int 0, .int 0, .int 0, .int 0, .null, .int 0])), (ql_6, .inr (3, [.ref lw_7, .ref hg_8, .ref tl_9, .ref th_10, .int 1000])), (lw_7, .inl (cI_2, 48, .inl (fun _ => 0))), (hg_8, .inl (cI_2, 48, .inl (fun _ => 1000))), (tl_9, .inl (cI_2, 48, .inl (fun _ => 0))), (th_10, .inl (cI_2, 48, .inl (fun _ => 0))), (pa_11, .inl (cP_3, 12, .inr (.inr (.inr (.inr (fun _ => none)))))), (ga_12, .inl (cG_4, 8, .inr (.inr (.inr (.inr (fun _ => none)))))), (sh_15, .inl (cS_5, 4, .inr (.inr (.inr (.inr (sh4 t0_16 t1_17 t2_18 t3_19)))))), (t0_16, .inr (7, [.ref d0_20, .int (-1), .int 0])), (t1_17, .inr (7, [.ref d1_21, .int (-1), .int 0])), (t2_18, .inr (7, [.ref d2_22, .int (-1), .int 0])), (t3_19, .inr (7, [.ref d3_23, .int (-1), .int 0])), (d0_20, .inl (cI_2, 48, .inl (fun _ => 0))), (d1_21, .inl (cI_2, 48, .inl (fun _ => 0))), (d2_22, .inl (cI_2, 48, .inl (fun _ => 0))), (d3_23, .inl (cI_2, 48, .inl (fun _ => 0))), (tr_24, .inr (9, [.int 0])), (qm, .inr (11, [.int 0, .int 1000, .ref m_low_27, .ref m_high_28, .ref m_newLow_29, .ref m_newHigh_30, .int 0, .ref m_sheetSize_31, .ref m_sheetLane_32, .ref m_sheet_33, .ref m_hands_34, .int 0, .ref m_fromX_35, .ref m_fromY_36, .ref m_toX_37, .ref m_toY_38, .ref m_tonsOf_39, .int 0, .ref m_sort_40, .ref m_debt_41, .int (-9), .int 0, .int 0, .int 0, .int 0, .ref m_gangOf_42, .ref m_pitchOf_43, .ref m_shareOf_44, .ref m_isSettled_45, .ref m_least_46, .ref m_greatest_47, .ref m_costs_48, .ref m_ahead_49, .ref m_pay_50, .int 0, .ref m_parcelTake_51, .ref m_parcelTons_52, .ref m_parcelGood_53, .int 0])), (m_low_27, .inl (cI_26, 48, .inl (fun _ => 0))), (m_high_28, .inl (cI_26, 48, .inl (fun _ => 1000))), (m_newLow_29, .inl (cI_26, 48, .inl (fun _ => 0))), (m_newHigh_30, .inl (cI_26, 48, .inl (fun _ => 0))), (m_sheetSize_31, .inl (cI_26, 4, .inl (fun _ => (-1)))), (m_sheetLane_32, .inl (cI_26, 4, .inl (fun _ => 0))), (m_sheet_33, .inl (cI_26, 192, .inl (fun _ => 0))), (m_fromX_35, .inl (cI_26, 12, .inl (fun _ => 0))), (m_fromY_36, .inl (cI_26, 12, .inl (fun _ => 0))), (m_toX_37, .inl (cI_26, 12, .inl (fun _ => 0))), (m_toY_38, .inl (cI_26, 12, .inl (fun _ => 0))), (m_tonsOf_39, .inl (cI_26, 12, .inl (fun _ => 0))), (m_sort_40, .inl (cI_26, 8, .inl (fun _ => 0)))] H) (hD : va_D (fun q : Nat => s.heap.size ≤ q) [(qx, .inr (10, [.ref ql_6, .ref pa_11, .ref ga_12, .ref ta_13, .ref pc_14, .ref sh_15, .ref tr_24, .int 0, .int 0, .int 0, .int 0, .null, .int 0])), (ql_6, .inr (3, [.ref lw_7, .ref hg_8, .ref tl_9, .ref th_10, .int 1000])), (lw_7, .inl (cI_2, 48, .inl (fun _ => 0))), (hg_8, .inl (cI_2, 48, .inl (fun _ => 1000))), (tl_9, .inl (cI_2, 48, .inl (fun _ => 0))), (th_10, .inl (cI_2, 48, .inl (fun _ => 0))), (pa_11, .inl (cP_3, 12, .inr (.inr (.inr (.inr (fun _ => none)))))), (ga_12, .inl (cG_4, 8, .inr (.inr (.inr (.inr (fun _ => none)))))), (sh_15, .inl (cS_5, 4, .inr (.inr (.inr (.inr (sh4 t0_16 t1_17 t2_18 t3_19)))))), (t0_16, .inr (7, [.ref d0_20, .int (-1), .int 0])), (t1_17, .inr (7, [.ref d1_21, .int (-1), .int 0])), (t2_18, .inr (7, [.ref d2_22, .int (-1), .int 0])), (t3_19, .inr (7, [.ref d3_23, .int (-1), .int 0])), (d0_20, .inl (cI_2, 48, .inl (fun _ => 0))), (d1_21, .inl (cI_2, 48, .inl (fun _ => 0))), (d2_22, .inl (cI_2, 48, .inl (fun _ => 0))), (d3_23, .inl (cI_2, 48, .inl (fun _ => 0))), (tr_24, .inr (9, [.int 0])), (qm, .inr (11, [.int 0, .int 1000, .ref m_low_27, .ref m_high_28, .ref m_newLow_29, .ref m_newHigh_30, .int 0, .ref m_sheetSize_31, .ref m_sheetLane_32, .ref m_sheet_33, .ref m_hands_34, .int 0, .ref m_fromX_35, .ref m_fromY_36, .ref m_toX_37, .ref m_toY_38, .ref m_tonsOf_39, .int 0, .ref m_sort_40, .ref m_debt_41, .int (-9), .int 0, .int 0, .int 0, .int 0, .ref m_gangOf_42, .ref m_pitchOf_43, .ref m_shareOf_44, .ref m_isSettled_45, .ref m_least_46, .ref m_greatest_47, .ref m_costs_48, .ref m_ahead_49, .ref m_pay_50, .int 0, .ref m_parcelTake_51, .ref m_parcelTons_52, .ref m_parcelGood_53, .int 0])), (m_low_27, .inl (cI_26, 48, .inl (fun _ => 0))), (m_high_28, .inl (cI_26, 48, .inl (fun _ => 1000))), (m_newLow_29, .inl (cI_26, 48, .inl (fun _ => 0))), (m_newHigh_30, .inl (cI_26, 48, .inl (fun _ => 0))), (m_sheetSize_31, .inl (cI_26, 4, .inl (fun _ => (-1)))), (m_sheetLane_32, .inl (cI_26, 4, .inl (fun _ => 0))), (m_sheet_33, .inl (cI_26, 192, .inl (fun _ => 0))), (m_fromX_35, .inl (cI_26, 12, .inl (fun _ => 0))), (m_fromY_36, .inl (cI_26, 12, .inl (fun _ => 0))), (m_toX_37, .inl (cI_26, 12, .inl (fun _ => 0))), (m_toY_38, .inl (cI_26, 12, .inl (fun _ => 0))), (m_tonsOf_39, .inl (cI_26, 12, .inl (fun _ => 0))), (m_sort_40, .inl (cI_26, 8, .inl (fun _ => 0)))]) (hS : va_S (fun q : Nat => s.heap.size ≤ q) s.heap H locs) (hl : lv_has ls 4 [(3, .int 0), (2, .ref qm), (1, .ref qx), (0, .ref b)]) : W p l e room_1 s m #[Value.ref b] below meth c H locs 48 1714 (lw_Z below #[Value.ref b] s) (F0 m 673 ls []) := by
  obtain ⟨hx, hb, hr, hml, hown, hts0, hX, hbl, hlocks, hgv⟩ := id C0
  have hA : ∀ q : Nat, s.heap.size ≤ q → (fun q : Nat => s.heap.size ≤ q) q := fun _ h => h
  have hbA : ¬ (fun q : Nat => s.heap.size ≤ q) b := Nat.not_le.mpr hbl
  have hts : ∀ w ∈ wsL_law, w.before #[Value.ref b] s = true := fun w h => hts0 w (wsL_law_in w h)
  refine lv_aload_n hx hb dL_law_673 rfl (lv_at hl 2 rfl) ?_
  refine lv_aload_n hx hb dL_law_674 rfl (lv_at hl 3 rfl) ?_
  refine lv_iload_n hx hb dL_law_675 rfl (lv_at hl 0 rfl) ?_
  refine lv_iconst (v := 1) hx hb dL_law_676 (by decide) ?_
  refine lv_iadd hx hb dL_law_677 ?_
  refine lv_topi (fun v1 ev1 => ?_)
  have ev1 : v1 = 1 := by rw [ev1]; decide
  subst ev1
  refine va_sld hx hb hX hbl hbA hS (by unfold vp_in; decide) dL_law_678 ?_
  refine W.eq (g2 := F0 m 679 ls [.int (xs 1), .ref qx]) rfl ?_
  have hPc := hP.sub (ws' := [(qx, .inr (10, [.ref ql_6, .ref pa_11, .ref ga_12, .ref ta_13, .ref pc_14, .ref sh_15, .ref tr_24, .int 0, .int 0, .int 0, .int 0, .null, .int 0]))]) [0] rfl
  have hDc := hD.sub (ws' := [(qx, .inr (10, [.ref ql_6, .ref pa_11, .ref ga_12, .ref ta_13, .ref pc_14, .ref sh_15, .ref tr_24, .int 0, .int 0, .int 0, .int 0, .null, .int 0]))]) [0] (by decide) rfl
  have hKc := hK.sub (tys' := []) [] rfl
  refine vp_callSl (va_Run.run (va_runV (As := [.int (xs 1)]) (rest := []) ⟨hx, hb, hml, hown, hts⟩ (c_X10_settle l dC dI  _ qx (.ref ql_6) (.ref pa_11) (.ref ga_12) (.ref ta_13) (.ref pc_14) (.ref sh_15) (.ref tr_24) (.int 0) (.int 0) (.int 0) .null (.int 0) (xs 1) ) (cwV 1 hts gL_law_X10_settle rfl rfl rfl (by decide +kernel) ⟨Nat.le_of_ble_eq_true rfl, Nat.le_of_ble_eq_true rfl⟩) (pw_preV (va_recv hKc hPc (ci := 10) (q0 := 0) rfl rfl) hPc hKc hDc hN) rfl rfl hl.1 rfl (lv_room (Nat.le_of_ble_eq_true rfl)) dL_law_679 ⟨Nat.le_of_ble_eq_true rfl, Nat.le_of_ble_eq_true rfl⟩)) (fun r2 hr2 => ?_)
  have hr2 : r2 = (-9223372036854775808) := hr2
  refine lv_aload_n hx hb dL_law_682 rfl (lv_at hl 1 rfl) ?_
  refine lv_aload_n hx hb dL_law_683 rfl (lv_at hl 3 rfl) ?_
  refine lv_iload_n hx hb dL_law_684 rfl (lv_at hl 0 rfl) ?_
  refine lv_iconst (v := 1) hx hb dL_law_685 (by decide) ?_
  refine lv_iadd hx hb dL_law_686 ?_
  refine lv_topi (fun v3 ev3 => ?_)
  have ev3 : v3 = 1 := by rw [ev3]; decide
  subst ev3
  refine va_sld hx hb hX hbl hbA hS (by unfold vp_in; decide) dL_law_687 ?_
  refine W.eq (g2 := F0 m 688 ls [.int (xs 1), .ref qm, .long r2]) rfl ?_
  have hPc := hP.sub (ws' := [(qm, .inr (11, [.int 0, .int 1000, .ref m_low_27, .ref m_high_28, .ref m_newLow_29, .ref m_newHigh_30, .int 0, .ref m_sheetSize_31, .ref m_sheetLane_32, .ref m_sheet_33, .ref m_hands_34, .int 0, .ref m_fromX_35, .ref m_fromY_36, .ref m_toX_37, .ref m_toY_38, .ref m_tonsOf_39, .int 0, .ref m_sort_40, .ref m_debt_41, .int (-9), .int 0, .int 0, .int 0, .int 0, .ref m_gangOf_42, .ref m_pitchOf_43, .ref m_shareOf_44, .ref m_isSettled_45, .ref m_least_46, .ref m_greatest_47, .ref m_costs_48, .ref m_ahead_49, .ref m_pay_50, .int 0, .ref m_parcelTake_51, .ref m_parcelTons_52, .ref m_parcelGood_53, .int 0]))]) [18] rfl
  have hDc := hD.sub (ws' := [(qm, .inr (11, [.int 0, .int 1000, .ref m_low_27, .ref m_high_28, .ref m_newLow_29, .ref m_newHigh_30, .int 0, .ref m_sheetSize_31, .ref m_sheetLane_32, .ref m_sheet_33, .ref m_hands_34, .int 0, .ref m_fromX_35, .ref m_fromY_36, .ref m_toX_37, .ref m_toY_38, .ref m_tonsOf_39, .int 0, .ref m_sort_40, .ref m_debt_41, .int (-9), .int 0, .int 0, .int 0, .int 0, .ref m_gangOf_42, .ref m_pitchOf_43, .ref m_shareOf_44, .ref m_isSettled_45, .ref m_least_46, .ref m_greatest_47, .ref m_costs_48, .ref m_ahead_49, .ref m_pay_50, .int 0, .ref m_parcelTake_51, .ref m_parcelTons_52, .ref m_parcelGood_53, .int 0]))]) [18] (by decide) rfl
  have hKc := hK.sub (tys' := []) [] rfl
  refine vp_callSl (va_Run.run (va_runV (As := [.int (xs 1)]) (rest := [.long r2]) ⟨hx, hb, hml, hown, hts⟩ (c_X11_settle l dC dI  _ qm (.int 0) (.int 1000) (.ref m_low_27) (.ref m_high_28) (.ref m_newLow_29) (.ref m_newHigh_30) (.int 0) (.ref m_sheetSize_31) (.ref m_sheetLane_32) (.ref m_sheet_33) (.ref m_hands_34) (.int 0) (.ref m_fromX_35) (.ref m_fromY_36) (.ref m_toX_37) (.ref m_toY_38) (.ref m_tonsOf_39) (.int 0) (.ref m_sort_40) (.ref m_debt_41) (.int (-9)) (.int 0) (.int 0) (.int 0) (.ref m_gangOf_42) (.ref m_pitchOf_43) (.ref m_shareOf_44) (.ref m_isSettled_45) (.ref m_least_46) (.ref m_greatest_47) (.ref m_costs_48) (.ref m_ahead_49) (.ref m_pay_50) (.int 0) (.ref m_parcelTake_51) (.ref m_parcelTons_52) (.ref m_parcelGood_53) (.int 0) (xs 1) ) (cwV 1 hts gL_law_X11_settle rfl rfl rfl (by decide +kernel) ⟨Nat.le_of_ble_eq_true rfl, Nat.le_of_ble_eq_true rfl⟩) (pw_preV (va_recv hKc hPc (ci := 11) (q0 := 0) rfl rfl) hPc hKc hDc hN) rfl rfl hl.1 rfl (lv_room (Nat.le_of_ble_eq_true rfl)) dL_law_688 ⟨Nat.le_of_ble_eq_true rfl, Nat.le_of_ble_eq_true rfl⟩)) (fun r4 hr4 => ?_)
  have hr4 : r4 = (-9223372036854775808) := hr4
  refine W.lcmp hx hb dL_law_691 ?_
  refine lv_if_eq (tgt := 1202) hx hb dL_law_692 (by decide) (fun c5 => ?_) (fun c5 => ?_)
  · skip
    have c5 := (lg_cmp_eq _ _).mp c5
    refine lv_iinc (v := 6) (lv' := [(3, .int 6), (2, .ref qm), (1, .ref qx), (0, .ref b)]) hx hb dL_law_1202 hl (k := 0) rfl (by decide) (by decide) rfl (fun ls hl => ?_)
    refine lv_goto (tgt := 18) hx hb dL_law_1205 (by decide) ?_
    refine lv_iload_n hx hb dL_law_18 rfl (lv_at hl 0 rfl) ?_
    refine lv_aload_n hx hb dL_law_19 rfl (lv_at hl 3 rfl) ?_
    refine va_slen hx hb hX hbl hbA hS dL_law_20 ?_
    refine W.eq (g2 := F0 m 21 ls [.int 6, .int 6]) rfl ?_
    refine lv_bipush (v := 6) hx hb dL_law_21 (by decide) ?_
    refine lv_isub hx hb dL_law_23 ?_
    refine lv_topi (fun v6 ev6 => ?_)
    have ev6 : v6 = 0 := by rw [ev6]; decide
    subst ev6
    refine lv_icmp_gt (tgt := 1208) hx hb dL_law_24 (by decide) (fun c7 => ?_) (fun c7 => ?_)
    · skip
      refine lv_iconst (v := 1) hx hb dL_law_1208 (by decide) ?_
      refine va_forget (fun q hq => hS.2.2 q hq) ?_
      refine W.widen (k := 600000) (n := 7302250) (Nat.le_of_ble_eq_true rfl) (Nat.le_of_ble_eq_true rfl) ?_
      exact lw_ret hx hb hr hlocks dL_law_1209
    · exact absurd c7 (by decide)
  · exact absurd c5 (not_not_intro ((lg_cmp_eq _ _).mpr (hr2.trans hr4.symm)))
set_option maxHeartbeats 4000000 in
set_option maxRecDepth 100000 in
theorem law_697 {p : Program} {l : Launch} {e : Env} {s : State} {m : MethodId} {below : List Frame} {meth : Method} {c : Code} {b : Nat} {xs : Nat → Int32} {dC : Nat → ClassId} {dI : Nat → Nat → Nat} {cG_4 cI_2 cI_26 cP_3 cS_5 : ClassId} {qx ql_6 pa_11 ga_12 ta_13 pc_14 sh_15 tr_24 lw_7 hg_8 tl_9 th_10 t0_16 d0_20 t1_17 d1_21 t2_18 d2_22 t3_19 d3_23 qm m_low_27 m_high_28 m_newLow_29 m_newHigh_30 m_sheetSize_31 m_sheetLane_32 m_sheet_33 m_hands_34 m_fromX_35 m_fromY_36 m_toX_37 m_toY_38 m_tonsOf_39 m_sort_40 m_debt_41 m_gangOf_42 m_pitchOf_43 m_shareOf_44 m_isSettled_45 m_least_46 m_greatest_47 m_costs_48 m_ahead_49 m_pay_50 m_parcelTake_51 m_parcelTons_52 m_parcelGood_53 : Nat} {H : Heap} {locs : List Loc} {ls : Array Slot} (C0 : lw_At p s m meth c b 6 xs) (hN : nst s) (hK : va_K (dC, dI) vwCl [(cI_2, .int), (cP_3, .object RX6), (cG_4, .object RX2), (cS_5, .object RX7), (cI_26, .int)] s) (hP : va_P (dC, dI) vwCl [(qx, .inr (10, [.ref ql_6, .ref pa_11, .ref ga_12, .ref ta_13, .ref pc_14, .ref sh_15, .ref tr_24, .int 0, .int 0, .int 0, .int 0, .null, .int 0])), (ql_6, .inr (3, [.ref lw_7, .ref hg_8, .ref tl_9, .ref th_10, .int 1000])), (lw_7, .inl (cI_2, 48, .inl (fun _ => 0))), (hg_8, .inl (cI_2, 48, .inl (fun _ => 1000))), (tl_9, .inl (cI_2, 48, .inl (fun _ => 0))), (th_10, .inl (cI_2, 48, .inl (fun _ => 0))), (pa_11, .inl (cP_3, 12, .inr (.inr (.inr (.inr (fun _ => none)))))), (ga_12, .inl (cG_4, 8, .inr (.inr (.inr (.inr (fun _ => none)))))), (sh_15, .inl (cS_5, 4, .inr (.inr (.inr (.inr (sh4 t0_16 t1_17 t2_18 t3_19)))))), (t0_16, .inr (7, [.ref d0_20, .int (-1), .int 0])), (t1_17, .inr (7, [.ref d1_21, .int (-1), .int 0])), (t2_18, .inr (7, [.ref d2_22, .int (-1), .int 0])), (t3_19, .inr (7, [.ref d3_23, .int (-1), .int 0])), (d0_20, .inl (cI_2, 48, .inl (fun _ => 0))), (d1_21, .inl (cI_2, 48, .inl (fun _ => 0))), (d2_22, .inl (cI_2, 48, .inl (fun _ => 0))), (d3_23, .inl (cI_2, 48, .inl (fun _ => 0))), (tr_24, .inr (9, [.int 0])), (qm, .inr (11, [.int 0, .int 1000, .ref m_low_27, .ref m_high_28, .ref m_newLow_29, .ref m_newHigh_30, .int 0, .ref m_sheetSize_31, .ref m_sheetLane_32, .ref m_sheet_33, .ref m_hands_34, .int 0, .ref m_fromX_35, .ref m_fromY_36, .ref m_toX_37, .ref m_toY_38, .ref m_tonsOf_39, .int 0, .ref m_sort_40, .ref m_debt_41, .int (-9), .int 0, .int 0, .int 0, .int 0, .ref m_gangOf_42, .ref m_pitchOf_43, .ref m_shareOf_44, .ref m_isSettled_45, .ref m_least_46, .ref m_greatest_47, .ref m_costs_48, .ref m_ahead_49, .ref m_pay_50, .int 0, .ref m_parcelTake_51, .ref m_parcelTons_52, .ref m_parcelGood_53, .int 0])), (m_low_27, .inl (cI_26, 48, .inl (fun _ => 0))), (m_high_28, .inl (cI_26, 48, .inl (fun _ => 1000))), (m_newLow_29, .inl (cI_26, 48, .inl (fun _ => 0))), (m_newHigh_30, .inl (cI_26, 48, .inl (fun _ => 0))), (m_sheetSize_31, .inl (cI_26, 4, .inl (fun _ => (-1)))), (m_sheetLane_32, .inl (cI_26, 4, .inl (fun _ => 0))), (m_sheet_33, .inl (cI_26, 192, .inl (fun _ => 0))), (m_fromX_35, .inl (cI_26, 12, .inl (fun _ => 0))), (m_fromY_36, .inl (cI_26, 12, .inl (fun _ => 0))), (m_toX_37, .inl (cI_26, 12, .inl (fun _ => 0))), (m_toY_38, .inl (cI_26, 12, .inl (fun _ => 0))), (m_tonsOf_39, .inl (cI_26, 12, .inl (fun _ => 0))), (m_sort_40, .inl (cI_26, 8, .inl (fun _ => 0)))] H) (hD : va_D (fun q : Nat => s.heap.size ≤ q) [(qx, .inr (10, [.ref ql_6, .ref pa_11, .ref ga_12, .ref ta_13, .ref pc_14, .ref sh_15, .ref tr_24, .int 0, .int 0, .int 0, .int 0, .null, .int 0])), (ql_6, .inr (3, [.ref lw_7, .ref hg_8, .ref tl_9, .ref th_10, .int 1000])), (lw_7, .inl (cI_2, 48, .inl (fun _ => 0))), (hg_8, .inl (cI_2, 48, .inl (fun _ => 1000))), (tl_9, .inl (cI_2, 48, .inl (fun _ => 0))), (th_10, .inl (cI_2, 48, .inl (fun _ => 0))), (pa_11, .inl (cP_3, 12, .inr (.inr (.inr (.inr (fun _ => none)))))), (ga_12, .inl (cG_4, 8, .inr (.inr (.inr (.inr (fun _ => none)))))), (sh_15, .inl (cS_5, 4, .inr (.inr (.inr (.inr (sh4 t0_16 t1_17 t2_18 t3_19)))))), (t0_16, .inr (7, [.ref d0_20, .int (-1), .int 0])), (t1_17, .inr (7, [.ref d1_21, .int (-1), .int 0])), (t2_18, .inr (7, [.ref d2_22, .int (-1), .int 0])), (t3_19, .inr (7, [.ref d3_23, .int (-1), .int 0])), (d0_20, .inl (cI_2, 48, .inl (fun _ => 0))), (d1_21, .inl (cI_2, 48, .inl (fun _ => 0))), (d2_22, .inl (cI_2, 48, .inl (fun _ => 0))), (d3_23, .inl (cI_2, 48, .inl (fun _ => 0))), (tr_24, .inr (9, [.int 0])), (qm, .inr (11, [.int 0, .int 1000, .ref m_low_27, .ref m_high_28, .ref m_newLow_29, .ref m_newHigh_30, .int 0, .ref m_sheetSize_31, .ref m_sheetLane_32, .ref m_sheet_33, .ref m_hands_34, .int 0, .ref m_fromX_35, .ref m_fromY_36, .ref m_toX_37, .ref m_toY_38, .ref m_tonsOf_39, .int 0, .ref m_sort_40, .ref m_debt_41, .int (-9), .int 0, .int 0, .int 0, .int 0, .ref m_gangOf_42, .ref m_pitchOf_43, .ref m_shareOf_44, .ref m_isSettled_45, .ref m_least_46, .ref m_greatest_47, .ref m_costs_48, .ref m_ahead_49, .ref m_pay_50, .int 0, .ref m_parcelTake_51, .ref m_parcelTons_52, .ref m_parcelGood_53, .int 0])), (m_low_27, .inl (cI_26, 48, .inl (fun _ => 0))), (m_high_28, .inl (cI_26, 48, .inl (fun _ => 1000))), (m_newLow_29, .inl (cI_26, 48, .inl (fun _ => 0))), (m_newHigh_30, .inl (cI_26, 48, .inl (fun _ => 0))), (m_sheetSize_31, .inl (cI_26, 4, .inl (fun _ => (-1)))), (m_sheetLane_32, .inl (cI_26, 4, .inl (fun _ => 0))), (m_sheet_33, .inl (cI_26, 192, .inl (fun _ => 0))), (m_fromX_35, .inl (cI_26, 12, .inl (fun _ => 0))), (m_fromY_36, .inl (cI_26, 12, .inl (fun _ => 0))), (m_toX_37, .inl (cI_26, 12, .inl (fun _ => 0))), (m_toY_38, .inl (cI_26, 12, .inl (fun _ => 0))), (m_tonsOf_39, .inl (cI_26, 12, .inl (fun _ => 0))), (m_sort_40, .inl (cI_26, 8, .inl (fun _ => 0)))]) (hS : va_S (fun q : Nat => s.heap.size ≤ q) s.heap H locs) (hl : lv_has ls 4 [(3, .int 0), (2, .ref qm), (1, .ref qx), (0, .ref b)]) : W p l e room_1 s m #[Value.ref b] below meth c H locs 48 1714 (lw_Z below #[Value.ref b] s) (F0 m 697 ls []) := by
  obtain ⟨hx, hb, hr, hml, hown, hts0, hX, hbl, hlocks, hgv⟩ := id C0
  have hA : ∀ q : Nat, s.heap.size ≤ q → (fun q : Nat => s.heap.size ≤ q) q := fun _ h => h
  have hbA : ¬ (fun q : Nat => s.heap.size ≤ q) b := Nat.not_le.mpr hbl
  have hts : ∀ w ∈ wsL_law, w.before #[Value.ref b] s = true := fun w h => hts0 w (wsL_law_in w h)
  refine lv_aload_n hx hb dL_law_697 rfl (lv_at hl 2 rfl) ?_
  refine lv_aload_n hx hb dL_law_698 rfl (lv_at hl 3 rfl) ?_
  refine lv_iload_n hx hb dL_law_699 rfl (lv_at hl 0 rfl) ?_
  refine lv_iconst (v := 1) hx hb dL_law_700 (by decide) ?_
  refine lv_iadd hx hb dL_law_701 ?_
  refine lv_topi (fun v1 ev1 => ?_)
  have ev1 : v1 = 1 := by rw [ev1]; decide
  subst ev1
  refine va_sld hx hb hX hbl hbA hS (by unfold vp_in; decide) dL_law_702 ?_
  refine W.eq (g2 := F0 m 703 ls [.int (xs 1), .ref qx]) rfl ?_
  refine lv_aload_n hx hb dL_law_703 rfl (lv_at hl 3 rfl) ?_
  refine lv_iload_n hx hb dL_law_704 rfl (lv_at hl 0 rfl) ?_
  refine lv_iconst (v := 2) hx hb dL_law_705 (by decide) ?_
  refine lv_iadd hx hb dL_law_706 ?_
  refine lv_topi (fun v2 ev2 => ?_)
  have ev2 : v2 = 2 := by rw [ev2]; decide
  subst ev2
  refine va_sld hx hb hX hbl hbA hS (by unfold vp_in; decide) dL_law_707 ?_
  refine W.eq (g2 := F0 m 708 ls [.int (xs 2), .int (xs 1), .ref qx]) rfl ?_
  have hPc := hP.sub (ws' := [(qx, .inr (10, [.ref ql_6, .ref pa_11, .ref ga_12, .ref ta_13, .ref pc_14, .ref sh_15, .ref tr_24, .int 0, .int 0, .int 0, .int 0, .null, .int 0]))]) [0] rfl
  have hDc := hD.sub (ws' := [(qx, .inr (10, [.ref ql_6, .ref pa_11, .ref ga_12, .ref ta_13, .ref pc_14, .ref sh_15, .ref tr_24, .int 0, .int 0, .int 0, .int 0, .null, .int 0]))]) [0] (by decide) rfl
  have hKc := hK.sub (tys' := []) [] rfl
  refine vp_callSi (va_Run.run (va_runV (As := [.int (xs 1), .int (xs 2)]) (rest := []) ⟨hx, hb, hml, hown, hts⟩ (c_X10_taken l dC dI  _ qx (.ref ql_6) (.ref pa_11) (.ref ga_12) (.ref ta_13) (.ref pc_14) (.ref sh_15) (.ref tr_24) (.int 0) (.int 0) (.int 0) .null (.int 0) (xs 1) (xs 2) ) (cwV 2 hts gL_law_X10_taken rfl rfl rfl (by decide +kernel) ⟨Nat.le_of_ble_eq_true rfl, Nat.le_of_ble_eq_true rfl⟩) (pw_preV (va_recv hKc hPc (ci := 10) (q0 := 0) rfl rfl) hPc hKc hDc hN) rfl rfl hl.1 rfl (lv_room (Nat.le_of_ble_eq_true rfl)) dL_law_708 ⟨Nat.le_of_ble_eq_true rfl, Nat.le_of_ble_eq_true rfl⟩)) (fun r3 hr3 => ?_)
  have hr3 : r3 = -1 := hr3
  refine lv_aload_n hx hb dL_law_711 rfl (lv_at hl 1 rfl) ?_
  refine lv_aload_n hx hb dL_law_712 rfl (lv_at hl 3 rfl) ?_
  refine lv_iload_n hx hb dL_law_713 rfl (lv_at hl 0 rfl) ?_
  refine lv_iconst (v := 1) hx hb dL_law_714 (by decide) ?_
  refine lv_iadd hx hb dL_law_715 ?_
  refine lv_topi (fun v4 ev4 => ?_)
  have ev4 : v4 = 1 := by rw [ev4]; decide
  subst ev4
  refine va_sld hx hb hX hbl hbA hS (by unfold vp_in; decide) dL_law_716 ?_
  refine W.eq (g2 := F0 m 717 ls [.int (xs 1), .ref qm, .int r3]) rfl ?_
  refine lv_aload_n hx hb dL_law_717 rfl (lv_at hl 3 rfl) ?_
  refine lv_iload_n hx hb dL_law_718 rfl (lv_at hl 0 rfl) ?_
  refine lv_iconst (v := 2) hx hb dL_law_719 (by decide) ?_
  refine lv_iadd hx hb dL_law_720 ?_
  refine lv_topi (fun v5 ev5 => ?_)
  have ev5 : v5 = 2 := by rw [ev5]; decide
  subst ev5
  refine va_sld hx hb hX hbl hbA hS (by unfold vp_in; decide) dL_law_721 ?_
  refine W.eq (g2 := F0 m 722 ls [.int (xs 2), .int (xs 1), .ref qm, .int r3]) rfl ?_
  have hPc := hP.sub (ws' := [(qm, .inr (11, [.int 0, .int 1000, .ref m_low_27, .ref m_high_28, .ref m_newLow_29, .ref m_newHigh_30, .int 0, .ref m_sheetSize_31, .ref m_sheetLane_32, .ref m_sheet_33, .ref m_hands_34, .int 0, .ref m_fromX_35, .ref m_fromY_36, .ref m_toX_37, .ref m_toY_38, .ref m_tonsOf_39, .int 0, .ref m_sort_40, .ref m_debt_41, .int (-9), .int 0, .int 0, .int 0, .int 0, .ref m_gangOf_42, .ref m_pitchOf_43, .ref m_shareOf_44, .ref m_isSettled_45, .ref m_least_46, .ref m_greatest_47, .ref m_costs_48, .ref m_ahead_49, .ref m_pay_50, .int 0, .ref m_parcelTake_51, .ref m_parcelTons_52, .ref m_parcelGood_53, .int 0]))]) [18] rfl
  have hDc := hD.sub (ws' := [(qm, .inr (11, [.int 0, .int 1000, .ref m_low_27, .ref m_high_28, .ref m_newLow_29, .ref m_newHigh_30, .int 0, .ref m_sheetSize_31, .ref m_sheetLane_32, .ref m_sheet_33, .ref m_hands_34, .int 0, .ref m_fromX_35, .ref m_fromY_36, .ref m_toX_37, .ref m_toY_38, .ref m_tonsOf_39, .int 0, .ref m_sort_40, .ref m_debt_41, .int (-9), .int 0, .int 0, .int 0, .int 0, .ref m_gangOf_42, .ref m_pitchOf_43, .ref m_shareOf_44, .ref m_isSettled_45, .ref m_least_46, .ref m_greatest_47, .ref m_costs_48, .ref m_ahead_49, .ref m_pay_50, .int 0, .ref m_parcelTake_51, .ref m_parcelTons_52, .ref m_parcelGood_53, .int 0]))]) [18] (by decide) rfl
  have hKc := hK.sub (tys' := []) [] rfl
  refine vp_callSi (va_Run.run (va_runV (As := [.int (xs 1), .int (xs 2)]) (rest := [.int r3]) ⟨hx, hb, hml, hown, hts⟩ (c_X11_taken l dC dI  _ qm (.int 0) (.int 1000) (.ref m_low_27) (.ref m_high_28) (.ref m_newLow_29) (.ref m_newHigh_30) (.int 0) (.ref m_sheetSize_31) (.ref m_sheetLane_32) (.ref m_sheet_33) (.ref m_hands_34) (.int 0) (.ref m_fromX_35) (.ref m_fromY_36) (.ref m_toX_37) (.ref m_toY_38) (.ref m_tonsOf_39) (.int 0) (.ref m_sort_40) (.ref m_debt_41) (.int (-9)) (.int 0) (.int 0) (.int 0) (.ref m_gangOf_42) (.ref m_pitchOf_43) (.ref m_shareOf_44) (.ref m_isSettled_45) (.ref m_least_46) (.ref m_greatest_47) (.ref m_costs_48) (.ref m_ahead_49) (.ref m_pay_50) (.int 0) (.ref m_parcelTake_51) (.ref m_parcelTons_52) (.ref m_parcelGood_53) (.int 0) (xs 1) (xs 2) ) (cwV 2 hts gL_law_X11_taken rfl rfl rfl (by decide +kernel) ⟨Nat.le_of_ble_eq_true rfl, Nat.le_of_ble_eq_true rfl⟩) (pw_preV (va_recv hKc hPc (ci := 11) (q0 := 0) rfl rfl) hPc hKc hDc hN) rfl rfl hl.1 rfl (lv_room (Nat.le_of_ble_eq_true rfl)) dL_law_722 ⟨Nat.le_of_ble_eq_true rfl, Nat.le_of_ble_eq_true rfl⟩)) (fun r6 hr6 => ?_)
  have hr6 : r6 = -1 := hr6
  refine lv_icmp_eq (tgt := 1202) hx hb dL_law_725 (by decide) (fun c7 => ?_) (fun c7 => ?_)
  · skip
    refine lv_iinc (v := 6) (lv' := [(3, .int 6), (2, .ref qm), (1, .ref qx), (0, .ref b)]) hx hb dL_law_1202 hl (k := 0) rfl (by decide) (by decide) rfl (fun ls hl => ?_)
    refine lv_goto (tgt := 18) hx hb dL_law_1205 (by decide) ?_
    refine lv_iload_n hx hb dL_law_18 rfl (lv_at hl 0 rfl) ?_
    refine lv_aload_n hx hb dL_law_19 rfl (lv_at hl 3 rfl) ?_
    refine va_slen hx hb hX hbl hbA hS dL_law_20 ?_
    refine W.eq (g2 := F0 m 21 ls [.int 6, .int 6]) rfl ?_
    refine lv_bipush (v := 6) hx hb dL_law_21 (by decide) ?_
    refine lv_isub hx hb dL_law_23 ?_
    refine lv_topi (fun v8 ev8 => ?_)
    have ev8 : v8 = 0 := by rw [ev8]; decide
    subst ev8
    refine lv_icmp_gt (tgt := 1208) hx hb dL_law_24 (by decide) (fun c9 => ?_) (fun c9 => ?_)
    · skip
      refine lv_iconst (v := 1) hx hb dL_law_1208 (by decide) ?_
      refine va_forget (fun q hq => hS.2.2 q hq) ?_
      refine W.widen (k := 600000) (n := 7302250) (Nat.le_of_ble_eq_true rfl) (Nat.le_of_ble_eq_true rfl) ?_
      exact lw_ret hx hb hr hlocks dL_law_1209
    · exact absurd c9 (by decide)
  · exact absurd c7 (not_not_intro (hr3.trans hr6.symm))
set_option maxHeartbeats 4000000 in
set_option maxRecDepth 100000 in
theorem law_730 {p : Program} {l : Launch} {e : Env} {s : State} {m : MethodId} {below : List Frame} {meth : Method} {c : Code} {b : Nat} {xs : Nat → Int32} {dC : Nat → ClassId} {dI : Nat → Nat → Nat} {cG_4 cI_2 cI_26 cP_3 cS_5 : ClassId} {qx ql_6 pa_11 ga_12 ta_13 pc_14 sh_15 tr_24 lw_7 hg_8 tl_9 th_10 t0_16 d0_20 t1_17 d1_21 t2_18 d2_22 t3_19 d3_23 qm m_low_27 m_high_28 m_newLow_29 m_newHigh_30 m_sheetSize_31 m_sheetLane_32 m_sheet_33 m_hands_34 m_fromX_35 m_fromY_36 m_toX_37 m_toY_38 m_tonsOf_39 m_sort_40 m_debt_41 m_gangOf_42 m_pitchOf_43 m_shareOf_44 m_isSettled_45 m_least_46 m_greatest_47 m_costs_48 m_ahead_49 m_pay_50 m_parcelTake_51 m_parcelTons_52 m_parcelGood_53 : Nat} {H : Heap} {locs : List Loc} {ls : Array Slot} (C0 : lw_At p s m meth c b 6 xs) (hN : nst s) (hK : va_K (dC, dI) vwCl [(cI_2, .int), (cP_3, .object RX6), (cG_4, .object RX2), (cS_5, .object RX7), (cI_26, .int)] s) (hP : va_P (dC, dI) vwCl [(qx, .inr (10, [.ref ql_6, .ref pa_11, .ref ga_12, .ref ta_13, .ref pc_14, .ref sh_15, .ref tr_24, .int 0, .int 0, .int 0, .int 0, .null, .int 0])), (ql_6, .inr (3, [.ref lw_7, .ref hg_8, .ref tl_9, .ref th_10, .int 1000])), (lw_7, .inl (cI_2, 48, .inl (fun _ => 0))), (hg_8, .inl (cI_2, 48, .inl (fun _ => 1000))), (tl_9, .inl (cI_2, 48, .inl (fun _ => 0))), (th_10, .inl (cI_2, 48, .inl (fun _ => 0))), (pa_11, .inl (cP_3, 12, .inr (.inr (.inr (.inr (fun _ => none)))))), (ga_12, .inl (cG_4, 8, .inr (.inr (.inr (.inr (fun _ => none)))))), (sh_15, .inl (cS_5, 4, .inr (.inr (.inr (.inr (sh4 t0_16 t1_17 t2_18 t3_19)))))), (t0_16, .inr (7, [.ref d0_20, .int (-1), .int 0])), (t1_17, .inr (7, [.ref d1_21, .int (-1), .int 0])), (t2_18, .inr (7, [.ref d2_22, .int (-1), .int 0])), (t3_19, .inr (7, [.ref d3_23, .int (-1), .int 0])), (d0_20, .inl (cI_2, 48, .inl (fun _ => 0))), (d1_21, .inl (cI_2, 48, .inl (fun _ => 0))), (d2_22, .inl (cI_2, 48, .inl (fun _ => 0))), (d3_23, .inl (cI_2, 48, .inl (fun _ => 0))), (tr_24, .inr (9, [.int 0])), (qm, .inr (11, [.int 0, .int 1000, .ref m_low_27, .ref m_high_28, .ref m_newLow_29, .ref m_newHigh_30, .int 0, .ref m_sheetSize_31, .ref m_sheetLane_32, .ref m_sheet_33, .ref m_hands_34, .int 0, .ref m_fromX_35, .ref m_fromY_36, .ref m_toX_37, .ref m_toY_38, .ref m_tonsOf_39, .int 0, .ref m_sort_40, .ref m_debt_41, .int (-9), .int 0, .int 0, .int 0, .int 0, .ref m_gangOf_42, .ref m_pitchOf_43, .ref m_shareOf_44, .ref m_isSettled_45, .ref m_least_46, .ref m_greatest_47, .ref m_costs_48, .ref m_ahead_49, .ref m_pay_50, .int 0, .ref m_parcelTake_51, .ref m_parcelTons_52, .ref m_parcelGood_53, .int 0])), (m_low_27, .inl (cI_26, 48, .inl (fun _ => 0))), (m_high_28, .inl (cI_26, 48, .inl (fun _ => 1000))), (m_newLow_29, .inl (cI_26, 48, .inl (fun _ => 0))), (m_newHigh_30, .inl (cI_26, 48, .inl (fun _ => 0))), (m_sheetSize_31, .inl (cI_26, 4, .inl (fun _ => (-1)))), (m_sheetLane_32, .inl (cI_26, 4, .inl (fun _ => 0))), (m_sheet_33, .inl (cI_26, 192, .inl (fun _ => 0))), (m_fromX_35, .inl (cI_26, 12, .inl (fun _ => 0))), (m_fromY_36, .inl (cI_26, 12, .inl (fun _ => 0))), (m_toX_37, .inl (cI_26, 12, .inl (fun _ => 0))), (m_toY_38, .inl (cI_26, 12, .inl (fun _ => 0))), (m_tonsOf_39, .inl (cI_26, 12, .inl (fun _ => 0))), (m_sort_40, .inl (cI_26, 8, .inl (fun _ => 0)))] H) (hD : va_D (fun q : Nat => s.heap.size ≤ q) [(qx, .inr (10, [.ref ql_6, .ref pa_11, .ref ga_12, .ref ta_13, .ref pc_14, .ref sh_15, .ref tr_24, .int 0, .int 0, .int 0, .int 0, .null, .int 0])), (ql_6, .inr (3, [.ref lw_7, .ref hg_8, .ref tl_9, .ref th_10, .int 1000])), (lw_7, .inl (cI_2, 48, .inl (fun _ => 0))), (hg_8, .inl (cI_2, 48, .inl (fun _ => 1000))), (tl_9, .inl (cI_2, 48, .inl (fun _ => 0))), (th_10, .inl (cI_2, 48, .inl (fun _ => 0))), (pa_11, .inl (cP_3, 12, .inr (.inr (.inr (.inr (fun _ => none)))))), (ga_12, .inl (cG_4, 8, .inr (.inr (.inr (.inr (fun _ => none)))))), (sh_15, .inl (cS_5, 4, .inr (.inr (.inr (.inr (sh4 t0_16 t1_17 t2_18 t3_19)))))), (t0_16, .inr (7, [.ref d0_20, .int (-1), .int 0])), (t1_17, .inr (7, [.ref d1_21, .int (-1), .int 0])), (t2_18, .inr (7, [.ref d2_22, .int (-1), .int 0])), (t3_19, .inr (7, [.ref d3_23, .int (-1), .int 0])), (d0_20, .inl (cI_2, 48, .inl (fun _ => 0))), (d1_21, .inl (cI_2, 48, .inl (fun _ => 0))), (d2_22, .inl (cI_2, 48, .inl (fun _ => 0))), (d3_23, .inl (cI_2, 48, .inl (fun _ => 0))), (tr_24, .inr (9, [.int 0])), (qm, .inr (11, [.int 0, .int 1000, .ref m_low_27, .ref m_high_28, .ref m_newLow_29, .ref m_newHigh_30, .int 0, .ref m_sheetSize_31, .ref m_sheetLane_32, .ref m_sheet_33, .ref m_hands_34, .int 0, .ref m_fromX_35, .ref m_fromY_36, .ref m_toX_37, .ref m_toY_38, .ref m_tonsOf_39, .int 0, .ref m_sort_40, .ref m_debt_41, .int (-9), .int 0, .int 0, .int 0, .int 0, .ref m_gangOf_42, .ref m_pitchOf_43, .ref m_shareOf_44, .ref m_isSettled_45, .ref m_least_46, .ref m_greatest_47, .ref m_costs_48, .ref m_ahead_49, .ref m_pay_50, .int 0, .ref m_parcelTake_51, .ref m_parcelTons_52, .ref m_parcelGood_53, .int 0])), (m_low_27, .inl (cI_26, 48, .inl (fun _ => 0))), (m_high_28, .inl (cI_26, 48, .inl (fun _ => 1000))), (m_newLow_29, .inl (cI_26, 48, .inl (fun _ => 0))), (m_newHigh_30, .inl (cI_26, 48, .inl (fun _ => 0))), (m_sheetSize_31, .inl (cI_26, 4, .inl (fun _ => (-1)))), (m_sheetLane_32, .inl (cI_26, 4, .inl (fun _ => 0))), (m_sheet_33, .inl (cI_26, 192, .inl (fun _ => 0))), (m_fromX_35, .inl (cI_26, 12, .inl (fun _ => 0))), (m_fromY_36, .inl (cI_26, 12, .inl (fun _ => 0))), (m_toX_37, .inl (cI_26, 12, .inl (fun _ => 0))), (m_toY_38, .inl (cI_26, 12, .inl (fun _ => 0))), (m_tonsOf_39, .inl (cI_26, 12, .inl (fun _ => 0))), (m_sort_40, .inl (cI_26, 8, .inl (fun _ => 0)))]) (hS : va_S (fun q : Nat => s.heap.size ≤ q) s.heap H locs) (hl : lv_has ls 4 [(3, .int 0), (2, .ref qm), (1, .ref qx), (0, .ref b)]) : W p l e room_1 s m #[Value.ref b] below meth c H locs 48 1714 (lw_Z below #[Value.ref b] s) (F0 m 730 ls []) := by
  obtain ⟨hx, hb, hr, hml, hown, hts0, hX, hbl, hlocks, hgv⟩ := id C0
  have hA : ∀ q : Nat, s.heap.size ≤ q → (fun q : Nat => s.heap.size ≤ q) q := fun _ h => h
  have hbA : ¬ (fun q : Nat => s.heap.size ≤ q) b := Nat.not_le.mpr hbl
  have hts : ∀ w ∈ wsL_law, w.before #[Value.ref b] s = true := fun w h => hts0 w (wsL_law_in w h)
  refine lv_aload_n hx hb dL_law_730 rfl (lv_at hl 2 rfl) ?_
  refine lv_aload_n hx hb dL_law_731 rfl (lv_at hl 3 rfl) ?_
  refine lv_iload_n hx hb dL_law_732 rfl (lv_at hl 0 rfl) ?_
  refine lv_iconst (v := 1) hx hb dL_law_733 (by decide) ?_
  refine lv_iadd hx hb dL_law_734 ?_
  refine lv_topi (fun v1 ev1 => ?_)
  have ev1 : v1 = 1 := by rw [ev1]; decide
  subst ev1
  refine va_sld hx hb hX hbl hbA hS (by unfold vp_in; decide) dL_law_735 ?_
  refine W.eq (g2 := F0 m 736 ls [.int (xs 1), .ref qx]) rfl ?_
  refine lv_aload_n hx hb dL_law_736 rfl (lv_at hl 3 rfl) ?_
  refine lv_iload_n hx hb dL_law_737 rfl (lv_at hl 0 rfl) ?_
  refine lv_iconst (v := 2) hx hb dL_law_738 (by decide) ?_
  refine lv_iadd hx hb dL_law_739 ?_
  refine lv_topi (fun v2 ev2 => ?_)
  have ev2 : v2 = 2 := by rw [ev2]; decide
  subst ev2
  refine va_sld hx hb hX hbl hbA hS (by unfold vp_in; decide) dL_law_740 ?_
  refine W.eq (g2 := F0 m 741 ls [.int (xs 2), .int (xs 1), .ref qx]) rfl ?_
  have hPc := hP.sub (ws' := [(qx, .inr (10, [.ref ql_6, .ref pa_11, .ref ga_12, .ref ta_13, .ref pc_14, .ref sh_15, .ref tr_24, .int 0, .int 0, .int 0, .int 0, .null, .int 0]))]) [0] rfl
  have hDc := hD.sub (ws' := [(qx, .inr (10, [.ref ql_6, .ref pa_11, .ref ga_12, .ref ta_13, .ref pc_14, .ref sh_15, .ref tr_24, .int 0, .int 0, .int 0, .int 0, .null, .int 0]))]) [0] (by decide) rfl
  have hKc := hK.sub (tys' := []) [] rfl
  refine vp_callSl (va_Run.run (va_runV (As := [.int (xs 1), .int (xs 2)]) (rest := []) ⟨hx, hb, hml, hown, hts⟩ (c_X10_money l dC dI  _ qx (.ref ql_6) (.ref pa_11) (.ref ga_12) (.ref ta_13) (.ref pc_14) (.ref sh_15) (.ref tr_24) (.int 0) (.int 0) (.int 0) .null (.int 0) (xs 1) (xs 2) ) (cwV 2 hts gL_law_X10_money rfl rfl rfl (by decide +kernel) ⟨Nat.le_of_ble_eq_true rfl, Nat.le_of_ble_eq_true rfl⟩) (pw_preV (va_recv hKc hPc (ci := 10) (q0 := 0) rfl rfl) hPc hKc hDc hN) rfl rfl hl.1 rfl (lv_room (Nat.le_of_ble_eq_true rfl)) dL_law_741 ⟨Nat.le_of_ble_eq_true rfl, Nat.le_of_ble_eq_true rfl⟩)) (fun r3 hr3 => ?_)
  have hr3 : r3 = (-9223372036854775808) := hr3
  refine lv_aload_n hx hb dL_law_744 rfl (lv_at hl 1 rfl) ?_
  refine lv_aload_n hx hb dL_law_745 rfl (lv_at hl 3 rfl) ?_
  refine lv_iload_n hx hb dL_law_746 rfl (lv_at hl 0 rfl) ?_
  refine lv_iconst (v := 1) hx hb dL_law_747 (by decide) ?_
  refine lv_iadd hx hb dL_law_748 ?_
  refine lv_topi (fun v4 ev4 => ?_)
  have ev4 : v4 = 1 := by rw [ev4]; decide
  subst ev4
  refine va_sld hx hb hX hbl hbA hS (by unfold vp_in; decide) dL_law_749 ?_
  refine W.eq (g2 := F0 m 750 ls [.int (xs 1), .ref qm, .long r3]) rfl ?_
  refine lv_aload_n hx hb dL_law_750 rfl (lv_at hl 3 rfl) ?_
  refine lv_iload_n hx hb dL_law_751 rfl (lv_at hl 0 rfl) ?_
  refine lv_iconst (v := 2) hx hb dL_law_752 (by decide) ?_
  refine lv_iadd hx hb dL_law_753 ?_
  refine lv_topi (fun v5 ev5 => ?_)
  have ev5 : v5 = 2 := by rw [ev5]; decide
  subst ev5
  refine va_sld hx hb hX hbl hbA hS (by unfold vp_in; decide) dL_law_754 ?_
  refine W.eq (g2 := F0 m 755 ls [.int (xs 2), .int (xs 1), .ref qm, .long r3]) rfl ?_
  have hPc := hP.sub (ws' := [(qm, .inr (11, [.int 0, .int 1000, .ref m_low_27, .ref m_high_28, .ref m_newLow_29, .ref m_newHigh_30, .int 0, .ref m_sheetSize_31, .ref m_sheetLane_32, .ref m_sheet_33, .ref m_hands_34, .int 0, .ref m_fromX_35, .ref m_fromY_36, .ref m_toX_37, .ref m_toY_38, .ref m_tonsOf_39, .int 0, .ref m_sort_40, .ref m_debt_41, .int (-9), .int 0, .int 0, .int 0, .int 0, .ref m_gangOf_42, .ref m_pitchOf_43, .ref m_shareOf_44, .ref m_isSettled_45, .ref m_least_46, .ref m_greatest_47, .ref m_costs_48, .ref m_ahead_49, .ref m_pay_50, .int 0, .ref m_parcelTake_51, .ref m_parcelTons_52, .ref m_parcelGood_53, .int 0]))]) [18] rfl
  have hDc := hD.sub (ws' := [(qm, .inr (11, [.int 0, .int 1000, .ref m_low_27, .ref m_high_28, .ref m_newLow_29, .ref m_newHigh_30, .int 0, .ref m_sheetSize_31, .ref m_sheetLane_32, .ref m_sheet_33, .ref m_hands_34, .int 0, .ref m_fromX_35, .ref m_fromY_36, .ref m_toX_37, .ref m_toY_38, .ref m_tonsOf_39, .int 0, .ref m_sort_40, .ref m_debt_41, .int (-9), .int 0, .int 0, .int 0, .int 0, .ref m_gangOf_42, .ref m_pitchOf_43, .ref m_shareOf_44, .ref m_isSettled_45, .ref m_least_46, .ref m_greatest_47, .ref m_costs_48, .ref m_ahead_49, .ref m_pay_50, .int 0, .ref m_parcelTake_51, .ref m_parcelTons_52, .ref m_parcelGood_53, .int 0]))]) [18] (by decide) rfl
  have hKc := hK.sub (tys' := []) [] rfl
  refine vp_callSl (va_Run.run (va_runV (As := [.int (xs 1), .int (xs 2)]) (rest := [.long r3]) ⟨hx, hb, hml, hown, hts⟩ (c_X11_money l dC dI  _ qm (.int 0) (.int 1000) (.ref m_low_27) (.ref m_high_28) (.ref m_newLow_29) (.ref m_newHigh_30) (.int 0) (.ref m_sheetSize_31) (.ref m_sheetLane_32) (.ref m_sheet_33) (.ref m_hands_34) (.int 0) (.ref m_fromX_35) (.ref m_fromY_36) (.ref m_toX_37) (.ref m_toY_38) (.ref m_tonsOf_39) (.int 0) (.ref m_sort_40) (.ref m_debt_41) (.int (-9)) (.int 0) (.int 0) (.int 0) (.ref m_gangOf_42) (.ref m_pitchOf_43) (.ref m_shareOf_44) (.ref m_isSettled_45) (.ref m_least_46) (.ref m_greatest_47) (.ref m_costs_48) (.ref m_ahead_49) (.ref m_pay_50) (.int 0) (.ref m_parcelTake_51) (.ref m_parcelTons_52) (.ref m_parcelGood_53) (.int 0) (xs 1) (xs 2) ) (cwV 2 hts gL_law_X11_money rfl rfl rfl (by decide +kernel) ⟨Nat.le_of_ble_eq_true rfl, Nat.le_of_ble_eq_true rfl⟩) (pw_preV (va_recv hKc hPc (ci := 11) (q0 := 0) rfl rfl) hPc hKc hDc hN) rfl rfl hl.1 rfl (lv_room (Nat.le_of_ble_eq_true rfl)) dL_law_755 ⟨Nat.le_of_ble_eq_true rfl, Nat.le_of_ble_eq_true rfl⟩)) (fun r6 hr6 => ?_)
  have hr6 : r6 = (-9223372036854775808) := hr6
  refine W.lcmp hx hb dL_law_758 ?_
  refine lv_if_eq (tgt := 1202) hx hb dL_law_759 (by decide) (fun c7 => ?_) (fun c7 => ?_)
  · skip
    have c7 := (lg_cmp_eq _ _).mp c7
    refine lv_iinc (v := 6) (lv' := [(3, .int 6), (2, .ref qm), (1, .ref qx), (0, .ref b)]) hx hb dL_law_1202 hl (k := 0) rfl (by decide) (by decide) rfl (fun ls hl => ?_)
    refine lv_goto (tgt := 18) hx hb dL_law_1205 (by decide) ?_
    refine lv_iload_n hx hb dL_law_18 rfl (lv_at hl 0 rfl) ?_
    refine lv_aload_n hx hb dL_law_19 rfl (lv_at hl 3 rfl) ?_
    refine va_slen hx hb hX hbl hbA hS dL_law_20 ?_
    refine W.eq (g2 := F0 m 21 ls [.int 6, .int 6]) rfl ?_
    refine lv_bipush (v := 6) hx hb dL_law_21 (by decide) ?_
    refine lv_isub hx hb dL_law_23 ?_
    refine lv_topi (fun v8 ev8 => ?_)
    have ev8 : v8 = 0 := by rw [ev8]; decide
    subst ev8
    refine lv_icmp_gt (tgt := 1208) hx hb dL_law_24 (by decide) (fun c9 => ?_) (fun c9 => ?_)
    · skip
      refine lv_iconst (v := 1) hx hb dL_law_1208 (by decide) ?_
      refine va_forget (fun q hq => hS.2.2 q hq) ?_
      refine W.widen (k := 600000) (n := 7302250) (Nat.le_of_ble_eq_true rfl) (Nat.le_of_ble_eq_true rfl) ?_
      exact lw_ret hx hb hr hlocks dL_law_1209
    · exact absurd c9 (by decide)
  · exact absurd c7 (not_not_intro ((lg_cmp_eq _ _).mpr (hr3.trans hr6.symm)))
