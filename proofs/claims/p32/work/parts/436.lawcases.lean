set_option maxHeartbeats 4000000 in
set_option maxRecDepth 100000 in
theorem law_1004 {p : Program} {l : Launch} {e : Env} {s : State} {m : MethodId} {below : List Frame} {meth : Method} {c : Code} {b L : Nat} {xs : Nat → Int32} {dC : Nat → ClassId} {dI : Nat → Nat → Nat} {cA : Nat → ClassId} {qm : Nat} {cI cJ cZ : ClassId} {ad : Nat → Nat} {zc : CS} {zr : RS2} {H : Heap} {locs : List Loc} {ls : Array Slot} {i18 cells slots : Nat} (C0 : lw_At p s m meth c b L xs) (hL : L ≤ 3072) (hN : nst s) (hKC : va_K (dC, dI) vwCl (ctys cA) s) (hKR : va_K (dC, dI) vwCl [(cI, .int), (cJ, .long), (cZ, .boolean)] s) (hi : i18 + 6 ≤ L) (hcl : cells + 1 ≤ room_1.cells) (hsl : slots + 12 ≤ room_1.slots) (hR : jR zc zr) (hJ : jS (dC, dI) cA qm cI cJ cZ ad (fun q : Nat => s.heap.size ≤ q) zc zr H) (hS : va_S (fun q : Nat => s.heap.size ≤ q) s.heap H locs) (hl : lv_has ls 4 [(0, .ref b), (1, .ref (cs_X zc 0 0)), (2, .ref qm), (3, .int (nI i18))]) (kk : ∀ (u : CS) (v : RS2) (H : Heap) (locs : List Loc), jR u v → cs_X u 0 0 = cs_X zc 0 0 → jS (dC, dI) cA qm cI cJ cZ ad (fun q : Nat => s.heap.size ≤ q) u v H → va_S (fun q : Nat => s.heap.size ≤ q) s.heap H locs → W p l e room_1 s m #[Value.ref b] below meth c H locs (cells + 1) (slots + 12) (lw_Z below #[Value.ref b] s) (F0 m 1195 ls [])) : W p l e room_1 s m #[Value.ref b] below meth c H locs cells slots (lw_Z below #[Value.ref b] s) (F0 m 1004 ls []) := by
  obtain ⟨hx, hb, hr, hml, hown, hts0, hX, hbl, hlocks, hgv⟩ := id C0
  have hbA : ¬ (fun q : Nat => s.heap.size ≤ q) b := Nat.not_le.mpr hbl
  have hts : ∀ w ∈ wsL_law, w.before #[Value.ref b] s = true := fun w h => hts0 w (wsL_law_in w h)
  refine lv_aload_n hx hb dL_law_1004 rfl (lv_at hl 1 rfl) ?_
  refine lv_aload_n hx hb dL_law_1005 rfl (lv_at hl 0 rfl) ?_
  refine lv_iload_n hx hb dL_law_1006 rfl (lv_at hl 3 rfl) ?_
  refine lv_iconst (v := 1) hx hb dL_law_1007 (by decide) ?_
  refine lv_iadd hx hb dL_law_1008 ?_
  refine lv_topi (fun w1008 ew1008 => ?_)
  have ew1008 : w1008 = nI (i18 + 1) := by rw [ew1008]; exact nI_p i18 1
  subst ew1008
  refine va_sld hx hb hX hbl hbA hS (vp_in_nI (n := (i18 + 1)) (by omega) (by omega)) dL_law_1009 ?_
  rw [nI_clamp (n := (i18 + 1)) (by omega)]
  refine W.eq (g2 := F0 m 1010 ls [.int (xs (i18 + 1)), .ref (cs_X zc 0 0)]) rfl ?_
  refine lv_aload_n hx hb dL_law_1010 rfl (lv_at hl 0 rfl) ?_
  refine lv_iload_n hx hb dL_law_1011 rfl (lv_at hl 3 rfl) ?_
  refine lv_iconst (v := 2) hx hb dL_law_1012 (by decide) ?_
  refine lv_iadd hx hb dL_law_1013 ?_
  refine lv_topi (fun w1013 ew1013 => ?_)
  have ew1013 : w1013 = nI (i18 + 2) := by rw [ew1013]; exact nI_p i18 2
  subst ew1013
  refine va_sld hx hb hX hbl hbA hS (vp_in_nI (n := (i18 + 2)) (by omega) (by omega)) dL_law_1014 ?_
  rw [nI_clamp (n := (i18 + 2)) (by omega)]
  refine W.eq (g2 := F0 m 1015 ls [.int (xs (i18 + 2)), .int (xs (i18 + 1)), .ref (cs_X zc 0 0)]) rfl ?_
  refine lv_aload_n hx hb dL_law_1015 rfl (lv_at hl 0 rfl) ?_
  refine lv_iload_n hx hb dL_law_1016 rfl (lv_at hl 3 rfl) ?_
  refine lv_iconst (v := 3) hx hb dL_law_1017 (by decide) ?_
  refine lv_iadd hx hb dL_law_1018 ?_
  refine lv_topi (fun w1018 ew1018 => ?_)
  have ew1018 : w1018 = nI (i18 + 3) := by rw [ew1018]; exact nI_p i18 3
  subst ew1018
  refine va_sld hx hb hX hbl hbA hS (vp_in_nI (n := (i18 + 3)) (by omega) (by omega)) dL_law_1019 ?_
  rw [nI_clamp (n := (i18 + 3)) (by omega)]
  refine W.eq (g2 := F0 m 1020 ls [.int (xs (i18 + 3)), .int (xs (i18 + 2)), .int (xs (i18 + 1)), .ref (cs_X zc 0 0)]) rfl ?_
  refine lv_aload_n hx hb dL_law_1020 rfl (lv_at hl 0 rfl) ?_
  refine lv_iload_n hx hb dL_law_1021 rfl (lv_at hl 3 rfl) ?_
  refine lv_iconst (v := 4) hx hb dL_law_1022 (by decide) ?_
  refine lv_iadd hx hb dL_law_1023 ?_
  refine lv_topi (fun w1023 ew1023 => ?_)
  have ew1023 : w1023 = nI (i18 + 4) := by rw [ew1023]; exact nI_p i18 4
  subst ew1023
  refine va_sld hx hb hX hbl hbA hS (vp_in_nI (n := (i18 + 4)) (by omega) (by omega)) dL_law_1024 ?_
  rw [nI_clamp (n := (i18 + 4)) (by omega)]
  refine W.eq (g2 := F0 m 1025 ls [.int (xs (i18 + 4)), .int (xs (i18 + 3)), .int (xs (i18 + 2)), .int (xs (i18 + 1)), .ref (cs_X zc 0 0)]) rfl ?_
  refine lv_aload_n hx hb dL_law_1025 rfl (lv_at hl 0 rfl) ?_
  refine lv_iload_n hx hb dL_law_1026 rfl (lv_at hl 3 rfl) ?_
  refine lv_iconst (v := 5) hx hb dL_law_1027 (by decide) ?_
  refine lv_iadd hx hb dL_law_1028 ?_
  refine lv_topi (fun w1028 ew1028 => ?_)
  have ew1028 : w1028 = nI (i18 + 5) := by rw [ew1028]; exact nI_p i18 5
  subst ew1028
  refine va_sld hx hb hX hbl hbA hS (vp_in_nI (n := (i18 + 5)) (by omega) (by omega)) dL_law_1029 ?_
  rw [nI_clamp (n := (i18 + 5)) (by omega)]
  refine W.eq (g2 := F0 m 1030 ls [.int (xs (i18 + 5)), .int (xs (i18 + 4)), .int (xs (i18 + 3)), .int (xs (i18 + 2)), .int (xs (i18 + 1)), .ref (cs_X zc 0 0)]) rfl ?_
  have hFc := hJ.freeC hS (fun _ h => h)
  refine va_calli (va_runV (As := [.int (xs (i18 + 1)), .int (xs (i18 + 2)), .int (xs (i18 + 3)), .int (xs (i18 + 4)), .int (xs (i18 + 5))]) (rest := []) ⟨hx, hb, hml, hown, hts⟩ (K_copy l dC dI cA _ zc (xs (i18 + 1)) (xs (i18 + 2)) (xs (i18 + 3)) (xs (i18 + 4)) (xs (i18 + 5)) hR.1) (cwV 5 hts gL_law_X10_copy rfl rfl rfl (by decide +kernel) ⟨Nat.le_of_ble_eq_true rfl, Nat.le_of_ble_eq_true rfl⟩) (kw_preV (k_recv hKC hJ.1) hJ.1 hKC hJ.2.1.1 hN) rfl rfl hl.1 rfl (lv_room (Nat.le_of_ble_eq_true rfl)) dL_law_1030 ⟨by omega, by omega⟩) hS (fun q _ h => hFc q h) hFc (fun r1 ur1 t H1 locs1 ht hvm hr1 hB hz1 hk1 hS1 => ?_)
  have hJ := jS_C hJ hFc ht hB hk1
  have hS := hS1
  clear hk1 hB hS1 hFc ht hvm hz1
  generalize H1 = H at hJ hS ⊢
  generalize locs1 = locs at hS ⊢
  refine lv_pop hx hb dL_law_1033 rfl ?_
  refine lv_aload_n hx hb dL_law_1034 rfl (lv_at hl 2 rfl) ?_
  refine lv_aload_n hx hb dL_law_1035 rfl (lv_at hl 0 rfl) ?_
  refine lv_iload_n hx hb dL_law_1036 rfl (lv_at hl 3 rfl) ?_
  refine lv_iconst (v := 1) hx hb dL_law_1037 (by decide) ?_
  refine lv_iadd hx hb dL_law_1038 ?_
  refine lv_topi (fun w1038 ew1038 => ?_)
  have ew1038 : w1038 = nI (i18 + 1) := by rw [ew1038]; exact nI_p i18 1
  subst ew1038
  refine va_sld hx hb hX hbl hbA hS (vp_in_nI (n := (i18 + 1)) (by omega) (by omega)) dL_law_1039 ?_
  rw [nI_clamp (n := (i18 + 1)) (by omega)]
  refine W.eq (g2 := F0 m 1040 ls [.int (xs (i18 + 1)), .ref qm]) rfl ?_
  refine lv_aload_n hx hb dL_law_1040 rfl (lv_at hl 0 rfl) ?_
  refine lv_iload_n hx hb dL_law_1041 rfl (lv_at hl 3 rfl) ?_
  refine lv_iconst (v := 2) hx hb dL_law_1042 (by decide) ?_
  refine lv_iadd hx hb dL_law_1043 ?_
  refine lv_topi (fun w1043 ew1043 => ?_)
  have ew1043 : w1043 = nI (i18 + 2) := by rw [ew1043]; exact nI_p i18 2
  subst ew1043
  refine va_sld hx hb hX hbl hbA hS (vp_in_nI (n := (i18 + 2)) (by omega) (by omega)) dL_law_1044 ?_
  rw [nI_clamp (n := (i18 + 2)) (by omega)]
  refine W.eq (g2 := F0 m 1045 ls [.int (xs (i18 + 2)), .int (xs (i18 + 1)), .ref qm]) rfl ?_
  refine lv_aload_n hx hb dL_law_1045 rfl (lv_at hl 0 rfl) ?_
  refine lv_iload_n hx hb dL_law_1046 rfl (lv_at hl 3 rfl) ?_
  refine lv_iconst (v := 3) hx hb dL_law_1047 (by decide) ?_
  refine lv_iadd hx hb dL_law_1048 ?_
  refine lv_topi (fun w1048 ew1048 => ?_)
  have ew1048 : w1048 = nI (i18 + 3) := by rw [ew1048]; exact nI_p i18 3
  subst ew1048
  refine va_sld hx hb hX hbl hbA hS (vp_in_nI (n := (i18 + 3)) (by omega) (by omega)) dL_law_1049 ?_
  rw [nI_clamp (n := (i18 + 3)) (by omega)]
  refine W.eq (g2 := F0 m 1050 ls [.int (xs (i18 + 3)), .int (xs (i18 + 2)), .int (xs (i18 + 1)), .ref qm]) rfl ?_
  refine lv_aload_n hx hb dL_law_1050 rfl (lv_at hl 0 rfl) ?_
  refine lv_iload_n hx hb dL_law_1051 rfl (lv_at hl 3 rfl) ?_
  refine lv_iconst (v := 4) hx hb dL_law_1052 (by decide) ?_
  refine lv_iadd hx hb dL_law_1053 ?_
  refine lv_topi (fun w1053 ew1053 => ?_)
  have ew1053 : w1053 = nI (i18 + 4) := by rw [ew1053]; exact nI_p i18 4
  subst ew1053
  refine va_sld hx hb hX hbl hbA hS (vp_in_nI (n := (i18 + 4)) (by omega) (by omega)) dL_law_1054 ?_
  rw [nI_clamp (n := (i18 + 4)) (by omega)]
  refine W.eq (g2 := F0 m 1055 ls [.int (xs (i18 + 4)), .int (xs (i18 + 3)), .int (xs (i18 + 2)), .int (xs (i18 + 1)), .ref qm]) rfl ?_
  refine lv_aload_n hx hb dL_law_1055 rfl (lv_at hl 0 rfl) ?_
  refine lv_iload_n hx hb dL_law_1056 rfl (lv_at hl 3 rfl) ?_
  refine lv_iconst (v := 5) hx hb dL_law_1057 (by decide) ?_
  refine lv_iadd hx hb dL_law_1058 ?_
  refine lv_topi (fun w1058 ew1058 => ?_)
  have ew1058 : w1058 = nI (i18 + 5) := by rw [ew1058]; exact nI_p i18 5
  subst ew1058
  refine va_sld hx hb hX hbl hbA hS (vp_in_nI (n := (i18 + 5)) (by omega) (by omega)) dL_law_1059 ?_
  rw [nI_clamp (n := (i18 + 5)) (by omega)]
  refine W.eq (g2 := F0 m 1060 ls [.int (xs (i18 + 5)), .int (xs (i18 + 4)), .int (xs (i18 + 3)), .int (xs (i18 + 2)), .int (xs (i18 + 1)), .ref qm]) rfl ?_
  have hFc := hJ.freeR hS (fun _ h => h)
  refine va_calli (va_runV (As := [.int (xs (i18 + 1)), .int (xs (i18 + 2)), .int (xs (i18 + 3)), .int (xs (i18 + 4)), .int (xs (i18 + 5))]) (rest := []) ⟨hx, hb, hml, hown, hts⟩ (M_copy l dC dI cI cJ cZ _ qm ad zr (xs (i18 + 1)) (xs (i18 + 2)) (xs (i18 + 3)) (xs (i18 + 4)) (xs (i18 + 5)) hR.2.1) (cwV 5 hts gL_law_X11_copy rfl rfl rfl (by decide +kernel) ⟨Nat.le_of_ble_eq_true rfl, Nat.le_of_ble_eq_true rfl⟩) (pw_preV (va_recv hKR hJ.2.2.1 (ci := 11) (q0 := 0) rfl rfl) hJ.2.2.1 hKR hJ.2.2.2.1 hN) rfl rfl hl.1 rfl (lv_room (Nat.le_of_ble_eq_true rfl)) dL_law_1060 ⟨by omega, by omega⟩) hS (fun q _ h => hFc q h) hFc (fun r2 ur2 t H1 locs1 ht hvm hr2 hB hz1 hk1 hS1 => ?_)
  have hJ := jS_R hJ hFc ht hB hk1
  have hS := hS1
  clear hk1 hB hS1 hFc ht hvm hz1
  generalize H1 = H at hJ hS ⊢
  generalize locs1 = locs at hS ⊢
  refine lv_pop hx hb dL_law_1063 rfl ?_
  refine lv_goto (tgt := 1195) hx hb dL_law_1064 (by decide) ?_
  refine W.widen (k := cells + 1) (n := slots + 12) (by omega) (by omega) ?_
  exact kk ur1 ur2 H locs ⟨hr1.1.1, hr2.1, (stA_copy hR.2.2.1 hr1.2 hr2.2), (stB_copy hR.2.2.2.1 hr1.2 hr2.2).1, (stC_copy hR.2.2.2.2.1 hr1.2 hr2.2), (stD_copy hR.2.2.2.2.2 hr1.2 hr2.2)⟩ hr1.1.2 hJ hS
set_option maxHeartbeats 4000000 in
set_option maxRecDepth 100000 in
theorem law_1067 {p : Program} {l : Launch} {e : Env} {s : State} {m : MethodId} {below : List Frame} {meth : Method} {c : Code} {b L : Nat} {xs : Nat → Int32} {dC : Nat → ClassId} {dI : Nat → Nat → Nat} {cA : Nat → ClassId} {qm : Nat} {cI cJ cZ : ClassId} {ad : Nat → Nat} {zc : CS} {zr : RS2} {H : Heap} {locs : List Loc} {ls : Array Slot} {i18 cells slots : Nat} (C0 : lw_At p s m meth c b L xs) (hL : L ≤ 3072) (hN : nst s) (hKC : va_K (dC, dI) vwCl (ctys cA) s) (hKR : va_K (dC, dI) vwCl [(cI, .int), (cJ, .long), (cZ, .boolean)] s) (hi : i18 + 6 ≤ L) (hcl : cells + 1 ≤ room_1.cells) (hsl : slots + 12 ≤ room_1.slots) (hR : jR zc zr) (hJ : jS (dC, dI) cA qm cI cJ cZ ad (fun q : Nat => s.heap.size ≤ q) zc zr H) (hS : va_S (fun q : Nat => s.heap.size ≤ q) s.heap H locs) (hl : lv_has ls 4 [(0, .ref b), (1, .ref (cs_X zc 0 0)), (2, .ref qm), (3, .int (nI i18))]) (kk : ∀ (u : CS) (v : RS2) (H : Heap) (locs : List Loc), jR u v → cs_X u 0 0 = cs_X zc 0 0 → jS (dC, dI) cA qm cI cJ cZ ad (fun q : Nat => s.heap.size ≤ q) u v H → va_S (fun q : Nat => s.heap.size ≤ q) s.heap H locs → W p l e room_1 s m #[Value.ref b] below meth c H locs (cells + 1) (slots + 12) (lw_Z below #[Value.ref b] s) (F0 m 1195 ls [])) : W p l e room_1 s m #[Value.ref b] below meth c H locs cells slots (lw_Z below #[Value.ref b] s) (F0 m 1067 ls []) := by
  obtain ⟨hx, hb, hr, hml, hown, hts0, hX, hbl, hlocks, hgv⟩ := id C0
  have hbA : ¬ (fun q : Nat => s.heap.size ≤ q) b := Nat.not_le.mpr hbl
  have hts : ∀ w ∈ wsL_law, w.before #[Value.ref b] s = true := fun w h => hts0 w (wsL_law_in w h)
  refine lv_aload_n hx hb dL_law_1067 rfl (lv_at hl 1 rfl) ?_
  refine lv_aload_n hx hb dL_law_1068 rfl (lv_at hl 0 rfl) ?_
  refine lv_iload_n hx hb dL_law_1069 rfl (lv_at hl 3 rfl) ?_
  refine lv_iconst (v := 1) hx hb dL_law_1070 (by decide) ?_
  refine lv_iadd hx hb dL_law_1071 ?_
  refine lv_topi (fun w1071 ew1071 => ?_)
  have ew1071 : w1071 = nI (i18 + 1) := by rw [ew1071]; exact nI_p i18 1
  subst ew1071
  refine va_sld hx hb hX hbl hbA hS (vp_in_nI (n := (i18 + 1)) (by omega) (by omega)) dL_law_1072 ?_
  rw [nI_clamp (n := (i18 + 1)) (by omega)]
  refine W.eq (g2 := F0 m 1073 ls [.int (xs (i18 + 1)), .ref (cs_X zc 0 0)]) rfl ?_
  have hFc := hJ.freeC hS (fun _ h => h)
  refine va_calli (va_runV (As := [.int (xs (i18 + 1))]) (rest := []) ⟨hx, hb, hml, hown, hts⟩ (K_tell l dC dI cA _ zc (xs (i18 + 1)) hR.1) (cwV 1 hts gL_law_X10_tell rfl rfl rfl (by decide +kernel) ⟨Nat.le_of_ble_eq_true rfl, Nat.le_of_ble_eq_true rfl⟩) (kw_preV (k_recv hKC hJ.1) hJ.1 hKC hJ.2.1.1 hN) rfl rfl hl.1 rfl (lv_room (Nat.le_of_ble_eq_true rfl)) dL_law_1073 ⟨by omega, by omega⟩) hS (fun q _ h => hFc q h) hFc (fun r1 ur1 t H1 locs1 ht hvm hr1 hB hz1 hk1 hS1 => ?_)
  have hJ := jS_C hJ hFc ht hB hk1
  have hS := hS1
  clear hk1 hB hS1 hFc ht hvm hz1
  generalize H1 = H at hJ hS ⊢
  generalize locs1 = locs at hS ⊢
  refine lv_pop hx hb dL_law_1076 rfl ?_
  refine lv_aload_n hx hb dL_law_1077 rfl (lv_at hl 2 rfl) ?_
  refine lv_aload_n hx hb dL_law_1078 rfl (lv_at hl 0 rfl) ?_
  refine lv_iload_n hx hb dL_law_1079 rfl (lv_at hl 3 rfl) ?_
  refine lv_iconst (v := 1) hx hb dL_law_1080 (by decide) ?_
  refine lv_iadd hx hb dL_law_1081 ?_
  refine lv_topi (fun w1081 ew1081 => ?_)
  have ew1081 : w1081 = nI (i18 + 1) := by rw [ew1081]; exact nI_p i18 1
  subst ew1081
  refine va_sld hx hb hX hbl hbA hS (vp_in_nI (n := (i18 + 1)) (by omega) (by omega)) dL_law_1082 ?_
  rw [nI_clamp (n := (i18 + 1)) (by omega)]
  refine W.eq (g2 := F0 m 1083 ls [.int (xs (i18 + 1)), .ref qm]) rfl ?_
  have hFc := hJ.freeR hS (fun _ h => h)
  refine va_calli (va_runV (As := [.int (xs (i18 + 1))]) (rest := []) ⟨hx, hb, hml, hown, hts⟩ (M_tell l dC dI cI cJ cZ _ qm ad zr (xs (i18 + 1)) hR.2.1) (cwV 1 hts gL_law_X11_tell rfl rfl rfl (by decide +kernel) ⟨Nat.le_of_ble_eq_true rfl, Nat.le_of_ble_eq_true rfl⟩) (pw_preV (va_recv hKR hJ.2.2.1 (ci := 11) (q0 := 0) rfl rfl) hJ.2.2.1 hKR hJ.2.2.2.1 hN) rfl rfl hl.1 rfl (lv_room (Nat.le_of_ble_eq_true rfl)) dL_law_1083 ⟨by omega, by omega⟩) hS (fun q _ h => hFc q h) hFc (fun r2 ur2 t H1 locs1 ht hvm hr2 hB hz1 hk1 hS1 => ?_)
  have hJ := jS_R hJ hFc ht hB hk1
  have hS := hS1
  clear hk1 hB hS1 hFc ht hvm hz1
  generalize H1 = H at hJ hS ⊢
  generalize locs1 = locs at hS ⊢
  refine lv_pop hx hb dL_law_1086 rfl ?_
  refine lv_goto (tgt := 1195) hx hb dL_law_1087 (by decide) ?_
  refine W.widen (k := cells + 1) (n := slots + 12) (by omega) (by omega) ?_
  exact kk ur1 ur2 H locs ⟨hr1.1.1, hr2.1, (stA_tell hR.1 hR.2.2.1 hr1.2 hr2.2), (stB_tell hR.2.2.2.1 hr1.2 hr2.2), (stC_tell hR.2.2.2.2.1 hr1.2 hr2.2), (stD_tell hR.2.2.2.2.2 hr1.2 hr2.2)⟩ hr1.1.2 hJ hS
set_option maxHeartbeats 4000000 in
set_option maxRecDepth 100000 in
theorem law_1090 {p : Program} {l : Launch} {e : Env} {s : State} {m : MethodId} {below : List Frame} {meth : Method} {c : Code} {b L : Nat} {xs : Nat → Int32} {dC : Nat → ClassId} {dI : Nat → Nat → Nat} {cA : Nat → ClassId} {qm : Nat} {cI cJ cZ : ClassId} {ad : Nat → Nat} {zc : CS} {zr : RS2} {H : Heap} {locs : List Loc} {ls : Array Slot} {i18 cells slots : Nat} (C0 : lw_At p s m meth c b L xs) (hL : L ≤ 3072) (hN : nst s) (hKC : va_K (dC, dI) vwCl (ctys cA) s) (hKR : va_K (dC, dI) vwCl [(cI, .int), (cJ, .long), (cZ, .boolean)] s) (hi : i18 + 6 ≤ L) (hcl : cells + 1 ≤ room_1.cells) (hsl : slots + 12 ≤ room_1.slots) (hR : jR zc zr) (hJ : jS (dC, dI) cA qm cI cJ cZ ad (fun q : Nat => s.heap.size ≤ q) zc zr H) (hS : va_S (fun q : Nat => s.heap.size ≤ q) s.heap H locs) (hl : lv_has ls 4 [(0, .ref b), (1, .ref (cs_X zc 0 0)), (2, .ref qm), (3, .int (nI i18))]) (kk : ∀ (u : CS) (v : RS2) (H : Heap) (locs : List Loc), jR u v → cs_X u 0 0 = cs_X zc 0 0 → jS (dC, dI) cA qm cI cJ cZ ad (fun q : Nat => s.heap.size ≤ q) u v H → va_S (fun q : Nat => s.heap.size ≤ q) s.heap H locs → W p l e room_1 s m #[Value.ref b] below meth c H locs (cells + 1) (slots + 12) (lw_Z below #[Value.ref b] s) (F0 m 1195 ls [])) : W p l e room_1 s m #[Value.ref b] below meth c H locs cells slots (lw_Z below #[Value.ref b] s) (F0 m 1090 ls []) := by
  obtain ⟨hx, hb, hr, hml, hown, hts0, hX, hbl, hlocks, hgv⟩ := id C0
  have hbA : ¬ (fun q : Nat => s.heap.size ≤ q) b := Nat.not_le.mpr hbl
  have hts : ∀ w ∈ wsL_law, w.before #[Value.ref b] s = true := fun w h => hts0 w (wsL_law_in w h)
  refine lv_aload_n hx hb dL_law_1090 rfl (lv_at hl 1 rfl) ?_
  refine lv_aload_n hx hb dL_law_1091 rfl (lv_at hl 0 rfl) ?_
  refine lv_iload_n hx hb dL_law_1092 rfl (lv_at hl 3 rfl) ?_
  refine lv_iconst (v := 1) hx hb dL_law_1093 (by decide) ?_
  refine lv_iadd hx hb dL_law_1094 ?_
  refine lv_topi (fun w1094 ew1094 => ?_)
  have ew1094 : w1094 = nI (i18 + 1) := by rw [ew1094]; exact nI_p i18 1
  subst ew1094
  refine va_sld hx hb hX hbl hbA hS (vp_in_nI (n := (i18 + 1)) (by omega) (by omega)) dL_law_1095 ?_
  rw [nI_clamp (n := (i18 + 1)) (by omega)]
  refine W.eq (g2 := F0 m 1096 ls [.int (xs (i18 + 1)), .ref (cs_X zc 0 0)]) rfl ?_
  have hFc := hJ.freeC hS (fun _ h => h)
  refine va_calli (va_runV (As := [.int (xs (i18 + 1))]) (rest := []) ⟨hx, hb, hml, hown, hts⟩ (K_greet l dC dI cA _ zc (xs (i18 + 1)) hR.1) (cwV 1 hts gL_law_X10_greet rfl rfl rfl (by decide +kernel) ⟨Nat.le_of_ble_eq_true rfl, Nat.le_of_ble_eq_true rfl⟩) (kw_preV (k_recv hKC hJ.1) hJ.1 hKC hJ.2.1.1 hN) rfl rfl hl.1 rfl (lv_room (Nat.le_of_ble_eq_true rfl)) dL_law_1096 ⟨by omega, by omega⟩) hS (fun q _ h => hFc q h) hFc (fun r1 ur1 t H1 locs1 ht hvm hr1 hB hz1 hk1 hS1 => ?_)
  have hJ := jS_C hJ hFc ht hB hk1
  have hS := hS1
  clear hk1 hB hS1 hFc ht hvm hz1
  generalize H1 = H at hJ hS ⊢
  generalize locs1 = locs at hS ⊢
  refine lv_pop hx hb dL_law_1099 rfl ?_
  refine lv_aload_n hx hb dL_law_1100 rfl (lv_at hl 2 rfl) ?_
  refine lv_aload_n hx hb dL_law_1101 rfl (lv_at hl 0 rfl) ?_
  refine lv_iload_n hx hb dL_law_1102 rfl (lv_at hl 3 rfl) ?_
  refine lv_iconst (v := 1) hx hb dL_law_1103 (by decide) ?_
  refine lv_iadd hx hb dL_law_1104 ?_
  refine lv_topi (fun w1104 ew1104 => ?_)
  have ew1104 : w1104 = nI (i18 + 1) := by rw [ew1104]; exact nI_p i18 1
  subst ew1104
  refine va_sld hx hb hX hbl hbA hS (vp_in_nI (n := (i18 + 1)) (by omega) (by omega)) dL_law_1105 ?_
  rw [nI_clamp (n := (i18 + 1)) (by omega)]
  refine W.eq (g2 := F0 m 1106 ls [.int (xs (i18 + 1)), .ref qm]) rfl ?_
  have hFc := hJ.freeR hS (fun _ h => h)
  refine va_calli (va_runV (As := [.int (xs (i18 + 1))]) (rest := []) ⟨hx, hb, hml, hown, hts⟩ (M_greet l dC dI cI cJ cZ _ qm ad zr (xs (i18 + 1)) hR.2.1) (cwV 1 hts gL_law_X11_greet rfl rfl rfl (by decide +kernel) ⟨Nat.le_of_ble_eq_true rfl, Nat.le_of_ble_eq_true rfl⟩) (pw_preV (va_recv hKR hJ.2.2.1 (ci := 11) (q0 := 0) rfl rfl) hJ.2.2.1 hKR hJ.2.2.2.1 hN) rfl rfl hl.1 rfl (lv_room (Nat.le_of_ble_eq_true rfl)) dL_law_1106 ⟨by omega, by omega⟩) hS (fun q _ h => hFc q h) hFc (fun r2 ur2 t H1 locs1 ht hvm hr2 hB hz1 hk1 hS1 => ?_)
  have hJ := jS_R hJ hFc ht hB hk1
  have hS := hS1
  clear hk1 hB hS1 hFc ht hvm hz1
  generalize H1 = H at hJ hS ⊢
  generalize locs1 = locs at hS ⊢
  refine lv_pop hx hb dL_law_1109 rfl ?_
  refine lv_goto (tgt := 1195) hx hb dL_law_1110 (by decide) ?_
  refine W.widen (k := cells + 1) (n := slots + 12) (by omega) (by omega) ?_
  exact kk ur1 ur2 H locs ⟨hr1.1.1, hr2.1, (stA_greet hR.1 hR.2.2.1 hr1.2 hr2.2).1, (stB_greet hR.2.2.2.1 hr1.2 hr2.2), (stC_greet hR.2.2.2.2.1 hr1.2 hr2.2), (stD_greet hR.2.2.2.2.2 hr1.2 hr2.2)⟩ hr1.1.2 hJ hS
set_option maxHeartbeats 4000000 in
set_option maxRecDepth 100000 in
theorem law_1113 {p : Program} {l : Launch} {e : Env} {s : State} {m : MethodId} {below : List Frame} {meth : Method} {c : Code} {b L : Nat} {xs : Nat → Int32} {dC : Nat → ClassId} {dI : Nat → Nat → Nat} {cA : Nat → ClassId} {qm : Nat} {cI cJ cZ : ClassId} {ad : Nat → Nat} {zc : CS} {zr : RS2} {H : Heap} {locs : List Loc} {ls : Array Slot} {i18 cells slots : Nat} (C0 : lw_At p s m meth c b L xs) (hL : L ≤ 3072) (hN : nst s) (hKC : va_K (dC, dI) vwCl (ctys cA) s) (hKR : va_K (dC, dI) vwCl [(cI, .int), (cJ, .long), (cZ, .boolean)] s) (hi : i18 + 6 ≤ L) (hcl : cells + 1 ≤ room_1.cells) (hsl : slots + 12 ≤ room_1.slots) (hR : jR zc zr) (hJ : jS (dC, dI) cA qm cI cJ cZ ad (fun q : Nat => s.heap.size ≤ q) zc zr H) (hS : va_S (fun q : Nat => s.heap.size ≤ q) s.heap H locs) (hl : lv_has ls 4 [(0, .ref b), (1, .ref (cs_X zc 0 0)), (2, .ref qm), (3, .int (nI i18))]) (kk : ∀ (u : CS) (v : RS2) (H : Heap) (locs : List Loc), jR u v → cs_X u 0 0 = cs_X zc 0 0 → jS (dC, dI) cA qm cI cJ cZ ad (fun q : Nat => s.heap.size ≤ q) u v H → va_S (fun q : Nat => s.heap.size ≤ q) s.heap H locs → W p l e room_1 s m #[Value.ref b] below meth c H locs (cells + 1) (slots + 12) (lw_Z below #[Value.ref b] s) (F0 m 1195 ls [])) : W p l e room_1 s m #[Value.ref b] below meth c H locs cells slots (lw_Z below #[Value.ref b] s) (F0 m 1113 ls []) := by
  obtain ⟨hx, hb, hr, hml, hown, hts0, hX, hbl, hlocks, hgv⟩ := id C0
  have hbA : ¬ (fun q : Nat => s.heap.size ≤ q) b := Nat.not_le.mpr hbl
  have hts : ∀ w ∈ wsL_law, w.before #[Value.ref b] s = true := fun w h => hts0 w (wsL_law_in w h)
  refine lv_aload_n hx hb dL_law_1113 rfl (lv_at hl 1 rfl) ?_
  refine lv_aload_n hx hb dL_law_1114 rfl (lv_at hl 0 rfl) ?_
  refine lv_iload_n hx hb dL_law_1115 rfl (lv_at hl 3 rfl) ?_
  refine lv_iconst (v := 1) hx hb dL_law_1116 (by decide) ?_
  refine lv_iadd hx hb dL_law_1117 ?_
  refine lv_topi (fun w1117 ew1117 => ?_)
  have ew1117 : w1117 = nI (i18 + 1) := by rw [ew1117]; exact nI_p i18 1
  subst ew1117
  refine va_sld hx hb hX hbl hbA hS (vp_in_nI (n := (i18 + 1)) (by omega) (by omega)) dL_law_1118 ?_
  rw [nI_clamp (n := (i18 + 1)) (by omega)]
  refine W.eq (g2 := F0 m 1119 ls [.int (xs (i18 + 1)), .ref (cs_X zc 0 0)]) rfl ?_
  refine lv_aload_n hx hb dL_law_1119 rfl (lv_at hl 0 rfl) ?_
  refine lv_iload_n hx hb dL_law_1120 rfl (lv_at hl 3 rfl) ?_
  refine lv_iconst (v := 2) hx hb dL_law_1121 (by decide) ?_
  refine lv_iadd hx hb dL_law_1122 ?_
  refine lv_topi (fun w1122 ew1122 => ?_)
  have ew1122 : w1122 = nI (i18 + 2) := by rw [ew1122]; exact nI_p i18 2
  subst ew1122
  refine va_sld hx hb hX hbl hbA hS (vp_in_nI (n := (i18 + 2)) (by omega) (by omega)) dL_law_1123 ?_
  rw [nI_clamp (n := (i18 + 2)) (by omega)]
  refine W.eq (g2 := F0 m 1124 ls [.int (xs (i18 + 2)), .int (xs (i18 + 1)), .ref (cs_X zc 0 0)]) rfl ?_
  have hFc := hJ.freeC hS (fun _ h => h)
  refine va_calli (va_runV (As := [.int (xs (i18 + 1)), .int (xs (i18 + 2))]) (rest := []) ⟨hx, hb, hml, hown, hts⟩ (K_as l dC dI cA _ zc (xs (i18 + 1)) (xs (i18 + 2)) hR.1) (cwV 2 hts gL_law_X10_as rfl rfl rfl (by decide +kernel) ⟨Nat.le_of_ble_eq_true rfl, Nat.le_of_ble_eq_true rfl⟩) (kw_preV (k_recv hKC hJ.1) hJ.1 hKC hJ.2.1.1 hN) rfl rfl hl.1 rfl (lv_room (Nat.le_of_ble_eq_true rfl)) dL_law_1124 ⟨by omega, by omega⟩) hS (fun q _ h => hFc q h) hFc (fun r1 ur1 t H1 locs1 ht hvm hr1 hB hz1 hk1 hS1 => ?_)
  have hJ := jS_C hJ hFc ht hB hk1
  have hS := hS1
  clear hk1 hB hS1 hFc ht hvm hz1
  generalize H1 = H at hJ hS ⊢
  generalize locs1 = locs at hS ⊢
  refine lv_pop hx hb dL_law_1127 rfl ?_
  refine lv_aload_n hx hb dL_law_1128 rfl (lv_at hl 2 rfl) ?_
  refine lv_aload_n hx hb dL_law_1129 rfl (lv_at hl 0 rfl) ?_
  refine lv_iload_n hx hb dL_law_1130 rfl (lv_at hl 3 rfl) ?_
  refine lv_iconst (v := 1) hx hb dL_law_1131 (by decide) ?_
  refine lv_iadd hx hb dL_law_1132 ?_
  refine lv_topi (fun w1132 ew1132 => ?_)
  have ew1132 : w1132 = nI (i18 + 1) := by rw [ew1132]; exact nI_p i18 1
  subst ew1132
  refine va_sld hx hb hX hbl hbA hS (vp_in_nI (n := (i18 + 1)) (by omega) (by omega)) dL_law_1133 ?_
  rw [nI_clamp (n := (i18 + 1)) (by omega)]
  refine W.eq (g2 := F0 m 1134 ls [.int (xs (i18 + 1)), .ref qm]) rfl ?_
  refine lv_aload_n hx hb dL_law_1134 rfl (lv_at hl 0 rfl) ?_
  refine lv_iload_n hx hb dL_law_1135 rfl (lv_at hl 3 rfl) ?_
  refine lv_iconst (v := 2) hx hb dL_law_1136 (by decide) ?_
  refine lv_iadd hx hb dL_law_1137 ?_
  refine lv_topi (fun w1137 ew1137 => ?_)
  have ew1137 : w1137 = nI (i18 + 2) := by rw [ew1137]; exact nI_p i18 2
  subst ew1137
  refine va_sld hx hb hX hbl hbA hS (vp_in_nI (n := (i18 + 2)) (by omega) (by omega)) dL_law_1138 ?_
  rw [nI_clamp (n := (i18 + 2)) (by omega)]
  refine W.eq (g2 := F0 m 1139 ls [.int (xs (i18 + 2)), .int (xs (i18 + 1)), .ref qm]) rfl ?_
  have hFc := hJ.freeR hS (fun _ h => h)
  refine va_calli (va_runV (As := [.int (xs (i18 + 1)), .int (xs (i18 + 2))]) (rest := []) ⟨hx, hb, hml, hown, hts⟩ (M_as l dC dI cI cJ cZ _ qm ad zr (xs (i18 + 1)) (xs (i18 + 2)) hR.2.1) (cwV 2 hts gL_law_X11_as rfl rfl rfl (by decide +kernel) ⟨Nat.le_of_ble_eq_true rfl, Nat.le_of_ble_eq_true rfl⟩) (pw_preV (va_recv hKR hJ.2.2.1 (ci := 11) (q0 := 0) rfl rfl) hJ.2.2.1 hKR hJ.2.2.2.1 hN) rfl rfl hl.1 rfl (lv_room (Nat.le_of_ble_eq_true rfl)) dL_law_1139 ⟨by omega, by omega⟩) hS (fun q _ h => hFc q h) hFc (fun r2 ur2 t H1 locs1 ht hvm hr2 hB hz1 hk1 hS1 => ?_)
  have hJ := jS_R hJ hFc ht hB hk1
  have hS := hS1
  clear hk1 hB hS1 hFc ht hvm hz1
  generalize H1 = H at hJ hS ⊢
  generalize locs1 = locs at hS ⊢
  refine lv_pop hx hb dL_law_1142 rfl ?_
  refine lv_goto (tgt := 1195) hx hb dL_law_1143 (by decide) ?_
  refine W.widen (k := cells + 1) (n := slots + 12) (by omega) (by omega) ?_
  exact kk ur1 ur2 H locs ⟨hr1.1.1, hr2.1, (stA_as hR.2.2.1 hr1.2 hr2.2), (stB_as hR.2.2.2.1 hr1.2 hr2.2), (stC_as hR.2.2.2.2.1 hr1.2 hr2.2), (stD_as hR.2.2.2.2.2 hr1.2 hr2.2)⟩ hr1.1.2 hJ hS
