set_option maxHeartbeats 4000000 in
set_option maxRecDepth 100000 in
theorem law_760 {p : Program} {l : Launch} {e : Env} {s : State} {m : MethodId} {below : List Frame} {meth : Method} {c : Code} {b L : Nat} {xs : Nat → Int32} {dC : Nat → ClassId} {dI : Nat → Nat → Nat} {cA : Nat → ClassId} {qm : Nat} {cI cJ cZ : ClassId} {ad : Nat → Nat} {zc : CS} {zr : RS2} {H : Heap} {locs : List Loc} {ls : Array Slot} {i18 cells slots : Nat} (C0 : lw_At p s m meth c b L xs) (hL : L ≤ 3072) (hN : nst s) (hKC : va_K (dC, dI) vwCl (ctys cA) s) (hKR : va_K (dC, dI) vwCl [(cI, .int), (cJ, .long), (cZ, .boolean)] s) (hi : i18 + 6 ≤ L) (hcl : cells + 1 ≤ room_1.cells) (hsl : slots + 12 ≤ room_1.slots) (hR : jR zc zr) (hJ : jS (dC, dI) cA qm cI cJ cZ ad (fun q : Nat => s.heap.size ≤ q) zc zr H) (hS : va_S (fun q : Nat => s.heap.size ≤ q) s.heap H locs) (hl : lv_has ls 4 [(0, .ref b), (1, .ref (cs_X zc 0 0)), (2, .ref qm), (3, .int (nI i18))]) (kk : ∀ (u : CS) (v : RS2) (H : Heap) (locs : List Loc), jR u v → cs_X u 0 0 = cs_X zc 0 0 → jS (dC, dI) cA qm cI cJ cZ ad (fun q : Nat => s.heap.size ≤ q) u v H → va_S (fun q : Nat => s.heap.size ≤ q) s.heap H locs → W p l e room_1 s m #[Value.ref b] below meth c H locs (cells + 1) (slots + 12) (lw_Z below #[Value.ref b] s) (F0 m 1195 ls [])) : W p l e room_1 s m #[Value.ref b] below meth c H locs cells slots (lw_Z below #[Value.ref b] s) (F0 m 760 ls []) := by
  obtain ⟨hx, hb, hr, hml, hown, hts0, hX, hbl, hlocks, hgv⟩ := id C0
  have hbA : ¬ (fun q : Nat => s.heap.size ≤ q) b := Nat.not_le.mpr hbl
  have hts : ∀ w ∈ wsL_law, w.before #[Value.ref b] s = true := fun w h => hts0 w (wsL_law_in w h)
  refine lv_aload_n hx hb dL_law_760 rfl (lv_at hl 1 rfl) ?_
  refine lv_aload_n hx hb dL_law_761 rfl (lv_at hl 0 rfl) ?_
  refine lv_iload_n hx hb dL_law_762 rfl (lv_at hl 3 rfl) ?_
  refine lv_iconst (v := 1) hx hb dL_law_763 (by decide) ?_
  refine lv_iadd hx hb dL_law_764 ?_
  refine lv_topi (fun w764 ew764 => ?_)
  have ew764 : w764 = nI (i18 + 1) := by rw [ew764]; exact nI_p i18 1
  subst ew764
  refine va_sld hx hb hX hbl hbA hS (vp_in_nI (n := (i18 + 1)) (by omega) (by omega)) dL_law_765 ?_
  rw [nI_clamp (n := (i18 + 1)) (by omega)]
  refine W.eq (g2 := F0 m 766 ls [.int (xs (i18 + 1)), .ref (cs_X zc 0 0)]) rfl ?_
  have hFc := hJ.freeC hS (fun _ h => h)
  refine va_calll (va_runV (As := [.int (xs (i18 + 1))]) (rest := []) ⟨hx, hb, hml, hown, hts⟩ (K_debt l dC dI cA _ zc (xs (i18 + 1)) hR.1) (cwV 1 hts gL_law_X10_debt rfl rfl rfl (by decide +kernel) ⟨Nat.le_of_ble_eq_true rfl, Nat.le_of_ble_eq_true rfl⟩) (kw_preV (k_recv hKC hJ.1) hJ.1 hKC hJ.2.1.1 hN) rfl rfl hl.1 rfl (lv_room (Nat.le_of_ble_eq_true rfl)) dL_law_766 ⟨by omega, by omega⟩) hS (fun q _ h => hFc q h) hFc (fun r1 ur1 t H1 locs1 ht hvm hr1 hB hz1 hk1 hS1 => ?_)
  have hJ := jS_C hJ hFc ht hB hk1
  have hS := hS1
  clear hk1 hB hS1 hFc ht hvm hz1
  generalize H1 = H at hJ hS ⊢
  generalize locs1 = locs at hS ⊢
  refine lv_pop2_2 hx hb dL_law_769 rfl ?_
  refine lv_aload_n hx hb dL_law_770 rfl (lv_at hl 2 rfl) ?_
  refine lv_aload_n hx hb dL_law_771 rfl (lv_at hl 0 rfl) ?_
  refine lv_iload_n hx hb dL_law_772 rfl (lv_at hl 3 rfl) ?_
  refine lv_iconst (v := 1) hx hb dL_law_773 (by decide) ?_
  refine lv_iadd hx hb dL_law_774 ?_
  refine lv_topi (fun w774 ew774 => ?_)
  have ew774 : w774 = nI (i18 + 1) := by rw [ew774]; exact nI_p i18 1
  subst ew774
  refine va_sld hx hb hX hbl hbA hS (vp_in_nI (n := (i18 + 1)) (by omega) (by omega)) dL_law_775 ?_
  rw [nI_clamp (n := (i18 + 1)) (by omega)]
  refine W.eq (g2 := F0 m 776 ls [.int (xs (i18 + 1)), .ref qm]) rfl ?_
  have hFc := hJ.freeR hS (fun _ h => h)
  refine va_calll (va_runV (As := [.int (xs (i18 + 1))]) (rest := []) ⟨hx, hb, hml, hown, hts⟩ (M_debt l dC dI cI cJ cZ _ qm ad zr (xs (i18 + 1)) hR.2.1) (cwV 1 hts gL_law_X11_debt rfl rfl rfl (by decide +kernel) ⟨Nat.le_of_ble_eq_true rfl, Nat.le_of_ble_eq_true rfl⟩) (pw_preV (va_recv hKR hJ.2.2.1 (ci := 11) (q0 := 0) rfl rfl) hJ.2.2.1 hKR hJ.2.2.2.1 hN) rfl rfl hl.1 rfl (lv_room (Nat.le_of_ble_eq_true rfl)) dL_law_776 ⟨by omega, by omega⟩) hS (fun q _ h => hFc q h) hFc (fun r2 ur2 t H1 locs1 ht hvm hr2 hB hz1 hk1 hS1 => ?_)
  have hJ := jS_R hJ hFc ht hB hk1
  have hS := hS1
  clear hk1 hB hS1 hFc ht hvm hz1
  generalize H1 = H at hJ hS ⊢
  generalize locs1 = locs at hS ⊢
  refine lv_pop2_2 hx hb dL_law_779 rfl ?_
  refine lv_goto (tgt := 1195) hx hb dL_law_780 (by decide) ?_
  refine W.widen (k := cells + 1) (n := slots + 12) (by omega) (by omega) ?_
  exact kk ur1 ur2 H locs ⟨hr1.1.1, hr2.1, (stA_debt hR.2.2.1 hr1.2 hr2.2), (stB_debt hR.2.2.2.1 hr1.2 hr2.2), (stC_debt hR.2.2.2.2.1 hr1.2 hr2.2), (stD_debt hR.2.2.2.2.2 hr1.2 hr2.2)⟩ hr1.1.2 hJ hS
set_option maxHeartbeats 4000000 in
set_option maxRecDepth 100000 in
theorem law_783 {p : Program} {l : Launch} {e : Env} {s : State} {m : MethodId} {below : List Frame} {meth : Method} {c : Code} {b L : Nat} {xs : Nat → Int32} {dC : Nat → ClassId} {dI : Nat → Nat → Nat} {cA : Nat → ClassId} {qm : Nat} {cI cJ cZ : ClassId} {ad : Nat → Nat} {zc : CS} {zr : RS2} {H : Heap} {locs : List Loc} {ls : Array Slot} {i18 cells slots : Nat} (C0 : lw_At p s m meth c b L xs) (hL : L ≤ 3072) (hN : nst s) (hKC : va_K (dC, dI) vwCl (ctys cA) s) (hKR : va_K (dC, dI) vwCl [(cI, .int), (cJ, .long), (cZ, .boolean)] s) (hi : i18 + 6 ≤ L) (hcl : cells + 1 ≤ room_1.cells) (hsl : slots + 12 ≤ room_1.slots) (hR : jR zc zr) (hJ : jS (dC, dI) cA qm cI cJ cZ ad (fun q : Nat => s.heap.size ≤ q) zc zr H) (hS : va_S (fun q : Nat => s.heap.size ≤ q) s.heap H locs) (hl : lv_has ls 4 [(0, .ref b), (1, .ref (cs_X zc 0 0)), (2, .ref qm), (3, .int (nI i18))]) (kk : ∀ (u : CS) (v : RS2) (H : Heap) (locs : List Loc), jR u v → cs_X u 0 0 = cs_X zc 0 0 → jS (dC, dI) cA qm cI cJ cZ ad (fun q : Nat => s.heap.size ≤ q) u v H → va_S (fun q : Nat => s.heap.size ≤ q) s.heap H locs → W p l e room_1 s m #[Value.ref b] below meth c H locs (cells + 1) (slots + 12) (lw_Z below #[Value.ref b] s) (F0 m 1195 ls [])) : W p l e room_1 s m #[Value.ref b] below meth c H locs cells slots (lw_Z below #[Value.ref b] s) (F0 m 783 ls []) := by
  obtain ⟨hx, hb, hr, hml, hown, hts0, hX, hbl, hlocks, hgv⟩ := id C0
  have hbA : ¬ (fun q : Nat => s.heap.size ≤ q) b := Nat.not_le.mpr hbl
  have hts : ∀ w ∈ wsL_law, w.before #[Value.ref b] s = true := fun w h => hts0 w (wsL_law_in w h)
  refine lv_aload_n hx hb dL_law_783 rfl (lv_at hl 1 rfl) ?_
  have hFc := hJ.freeC hS (fun _ h => h)
  refine va_calli (va_runV (As := []) (rest := []) ⟨hx, hb, hml, hown, hts⟩ (K_suspects l dC dI cA _ zc  hR.1) (cwV 0 hts gL_law_X10_suspects rfl rfl rfl (by decide +kernel) ⟨Nat.le_of_ble_eq_true rfl, Nat.le_of_ble_eq_true rfl⟩) (kw_preV (k_recv hKC hJ.1) hJ.1 hKC hJ.2.1.1 hN) rfl rfl hl.1 rfl (lv_room (Nat.le_of_ble_eq_true rfl)) dL_law_784 ⟨by omega, by omega⟩) hS (fun q _ h => hFc q h) hFc (fun r1 ur1 t H1 locs1 ht hvm hr1 hB hz1 hk1 hS1 => ?_)
  have hJ := jS_C hJ hFc ht hB hk1
  have hS := hS1
  clear hk1 hB hS1 hFc ht hvm hz1
  generalize H1 = H at hJ hS ⊢
  generalize locs1 = locs at hS ⊢
  refine lv_pop hx hb dL_law_787 rfl ?_
  refine lv_aload_n hx hb dL_law_788 rfl (lv_at hl 2 rfl) ?_
  have hFc := hJ.freeR hS (fun _ h => h)
  refine va_calli (va_runV (As := []) (rest := []) ⟨hx, hb, hml, hown, hts⟩ (M_suspects l dC dI cI cJ cZ _ qm ad zr  hR.2.1) (cwV 0 hts gL_law_X11_suspects rfl rfl rfl (by decide +kernel) ⟨Nat.le_of_ble_eq_true rfl, Nat.le_of_ble_eq_true rfl⟩) (pw_preV (va_recv hKR hJ.2.2.1 (ci := 11) (q0 := 0) rfl rfl) hJ.2.2.1 hKR hJ.2.2.2.1 hN) rfl rfl hl.1 rfl (lv_room (Nat.le_of_ble_eq_true rfl)) dL_law_789 ⟨by omega, by omega⟩) hS (fun q _ h => hFc q h) hFc (fun r2 ur2 t H1 locs1 ht hvm hr2 hB hz1 hk1 hS1 => ?_)
  have hJ := jS_R hJ hFc ht hB hk1
  have hS := hS1
  clear hk1 hB hS1 hFc ht hvm hz1
  generalize H1 = H at hJ hS ⊢
  generalize locs1 = locs at hS ⊢
  refine lv_pop hx hb dL_law_792 rfl ?_
  refine lv_goto (tgt := 1195) hx hb dL_law_793 (by decide) ?_
  refine W.widen (k := cells + 1) (n := slots + 12) (by omega) (by omega) ?_
  exact kk ur1 ur2 H locs ⟨hr1.1.1, hr2.1, (stA_suspects hR.2.2.1 hr1.2 hr2.2), (stB_suspects hR.2.2.2.1 hr1.2 hr2.2), (stC_suspects hR.2.2.2.2.1 hr1.2 hr2.2), (stD_suspects hR.2.2.2.2.2 hr1.2 hr2.2)⟩ hr1.1.2 hJ hS
set_option maxHeartbeats 4000000 in
set_option maxRecDepth 100000 in
theorem law_796 {p : Program} {l : Launch} {e : Env} {s : State} {m : MethodId} {below : List Frame} {meth : Method} {c : Code} {b L : Nat} {xs : Nat → Int32} {dC : Nat → ClassId} {dI : Nat → Nat → Nat} {cA : Nat → ClassId} {qm : Nat} {cI cJ cZ : ClassId} {ad : Nat → Nat} {zc : CS} {zr : RS2} {H : Heap} {locs : List Loc} {ls : Array Slot} {i18 cells slots : Nat} (C0 : lw_At p s m meth c b L xs) (hL : L ≤ 3072) (hN : nst s) (hKC : va_K (dC, dI) vwCl (ctys cA) s) (hKR : va_K (dC, dI) vwCl [(cI, .int), (cJ, .long), (cZ, .boolean)] s) (hi : i18 + 6 ≤ L) (hcl : cells + 1 ≤ room_1.cells) (hsl : slots + 12 ≤ room_1.slots) (hR : jR zc zr) (hJ : jS (dC, dI) cA qm cI cJ cZ ad (fun q : Nat => s.heap.size ≤ q) zc zr H) (hS : va_S (fun q : Nat => s.heap.size ≤ q) s.heap H locs) (hl : lv_has ls 4 [(0, .ref b), (1, .ref (cs_X zc 0 0)), (2, .ref qm), (3, .int (nI i18))]) (kk : ∀ (u : CS) (v : RS2) (H : Heap) (locs : List Loc), jR u v → cs_X u 0 0 = cs_X zc 0 0 → jS (dC, dI) cA qm cI cJ cZ ad (fun q : Nat => s.heap.size ≤ q) u v H → va_S (fun q : Nat => s.heap.size ≤ q) s.heap H locs → W p l e room_1 s m #[Value.ref b] below meth c H locs (cells + 1) (slots + 12) (lw_Z below #[Value.ref b] s) (F0 m 1195 ls [])) : W p l e room_1 s m #[Value.ref b] below meth c H locs cells slots (lw_Z below #[Value.ref b] s) (F0 m 796 ls []) := by
  obtain ⟨hx, hb, hr, hml, hown, hts0, hX, hbl, hlocks, hgv⟩ := id C0
  have hbA : ¬ (fun q : Nat => s.heap.size ≤ q) b := Nat.not_le.mpr hbl
  have hts : ∀ w ∈ wsL_law, w.before #[Value.ref b] s = true := fun w h => hts0 w (wsL_law_in w h)
  refine lv_aload_n hx hb dL_law_796 rfl (lv_at hl 1 rfl) ?_
  refine lv_aload_n hx hb dL_law_797 rfl (lv_at hl 0 rfl) ?_
  refine lv_iload_n hx hb dL_law_798 rfl (lv_at hl 3 rfl) ?_
  refine lv_iconst (v := 1) hx hb dL_law_799 (by decide) ?_
  refine lv_iadd hx hb dL_law_800 ?_
  refine lv_topi (fun w800 ew800 => ?_)
  have ew800 : w800 = nI (i18 + 1) := by rw [ew800]; exact nI_p i18 1
  subst ew800
  refine va_sld hx hb hX hbl hbA hS (vp_in_nI (n := (i18 + 1)) (by omega) (by omega)) dL_law_801 ?_
  rw [nI_clamp (n := (i18 + 1)) (by omega)]
  refine W.eq (g2 := F0 m 802 ls [.int (xs (i18 + 1)), .ref (cs_X zc 0 0)]) rfl ?_
  have hFc := hJ.freeC hS (fun _ h => h)
  refine va_calli (va_runV (As := [.int (xs (i18 + 1))]) (rest := []) ⟨hx, hb, hml, hown, hts⟩ (K_suspect l dC dI cA _ zc (xs (i18 + 1)) hR.1) (cwV 1 hts gL_law_X10_suspect rfl rfl rfl (by decide +kernel) ⟨Nat.le_of_ble_eq_true rfl, Nat.le_of_ble_eq_true rfl⟩) (kw_preV (k_recv hKC hJ.1) hJ.1 hKC hJ.2.1.1 hN) rfl rfl hl.1 rfl (lv_room (Nat.le_of_ble_eq_true rfl)) dL_law_802 ⟨by omega, by omega⟩) hS (fun q _ h => hFc q h) hFc (fun r1 ur1 t H1 locs1 ht hvm hr1 hB hz1 hk1 hS1 => ?_)
  have hJ := jS_C hJ hFc ht hB hk1
  have hS := hS1
  clear hk1 hB hS1 hFc ht hvm hz1
  generalize H1 = H at hJ hS ⊢
  generalize locs1 = locs at hS ⊢
  refine lv_pop hx hb dL_law_805 rfl ?_
  refine lv_aload_n hx hb dL_law_806 rfl (lv_at hl 2 rfl) ?_
  refine lv_aload_n hx hb dL_law_807 rfl (lv_at hl 0 rfl) ?_
  refine lv_iload_n hx hb dL_law_808 rfl (lv_at hl 3 rfl) ?_
  refine lv_iconst (v := 1) hx hb dL_law_809 (by decide) ?_
  refine lv_iadd hx hb dL_law_810 ?_
  refine lv_topi (fun w810 ew810 => ?_)
  have ew810 : w810 = nI (i18 + 1) := by rw [ew810]; exact nI_p i18 1
  subst ew810
  refine va_sld hx hb hX hbl hbA hS (vp_in_nI (n := (i18 + 1)) (by omega) (by omega)) dL_law_811 ?_
  rw [nI_clamp (n := (i18 + 1)) (by omega)]
  refine W.eq (g2 := F0 m 812 ls [.int (xs (i18 + 1)), .ref qm]) rfl ?_
  have hFc := hJ.freeR hS (fun _ h => h)
  refine va_calli (va_runV (As := [.int (xs (i18 + 1))]) (rest := []) ⟨hx, hb, hml, hown, hts⟩ (M_suspect l dC dI cI cJ cZ _ qm ad zr (xs (i18 + 1)) hR.2.1) (cwV 1 hts gL_law_X11_suspect rfl rfl rfl (by decide +kernel) ⟨Nat.le_of_ble_eq_true rfl, Nat.le_of_ble_eq_true rfl⟩) (pw_preV (va_recv hKR hJ.2.2.1 (ci := 11) (q0 := 0) rfl rfl) hJ.2.2.1 hKR hJ.2.2.2.1 hN) rfl rfl hl.1 rfl (lv_room (Nat.le_of_ble_eq_true rfl)) dL_law_812 ⟨by omega, by omega⟩) hS (fun q _ h => hFc q h) hFc (fun r2 ur2 t H1 locs1 ht hvm hr2 hB hz1 hk1 hS1 => ?_)
  have hJ := jS_R hJ hFc ht hB hk1
  have hS := hS1
  clear hk1 hB hS1 hFc ht hvm hz1
  generalize H1 = H at hJ hS ⊢
  generalize locs1 = locs at hS ⊢
  refine lv_pop hx hb dL_law_815 rfl ?_
  refine lv_goto (tgt := 1195) hx hb dL_law_816 (by decide) ?_
  refine W.widen (k := cells + 1) (n := slots + 12) (by omega) (by omega) ?_
  exact kk ur1 ur2 H locs ⟨hr1.1.1, hr2.1, (stA_suspect hR.2.2.1 hr1.2 hr2.2), (stB_suspect hR.2.2.2.1 hr1.2 hr2.2), (stC_suspect hR.2.2.2.2.1 hr1.2 hr2.2), (stD_suspect hR.2.2.2.2.2 hr1.2 hr2.2)⟩ hr1.1.2 hJ hS
set_option maxHeartbeats 4000000 in
set_option maxRecDepth 100000 in
theorem law_819 {p : Program} {l : Launch} {e : Env} {s : State} {m : MethodId} {below : List Frame} {meth : Method} {c : Code} {b L : Nat} {xs : Nat → Int32} {dC : Nat → ClassId} {dI : Nat → Nat → Nat} {cA : Nat → ClassId} {qm : Nat} {cI cJ cZ : ClassId} {ad : Nat → Nat} {zc : CS} {zr : RS2} {H : Heap} {locs : List Loc} {ls : Array Slot} {i18 cells slots : Nat} (C0 : lw_At p s m meth c b L xs) (hL : L ≤ 3072) (hN : nst s) (hKC : va_K (dC, dI) vwCl (ctys cA) s) (hKR : va_K (dC, dI) vwCl [(cI, .int), (cJ, .long), (cZ, .boolean)] s) (hi : i18 + 6 ≤ L) (hcl : cells + 1 ≤ room_1.cells) (hsl : slots + 12 ≤ room_1.slots) (hR : jR zc zr) (hJ : jS (dC, dI) cA qm cI cJ cZ ad (fun q : Nat => s.heap.size ≤ q) zc zr H) (hS : va_S (fun q : Nat => s.heap.size ≤ q) s.heap H locs) (hl : lv_has ls 4 [(0, .ref b), (1, .ref (cs_X zc 0 0)), (2, .ref qm), (3, .int (nI i18))]) (kk : ∀ (u : CS) (v : RS2) (H : Heap) (locs : List Loc), jR u v → cs_X u 0 0 = cs_X zc 0 0 → jS (dC, dI) cA qm cI cJ cZ ad (fun q : Nat => s.heap.size ≤ q) u v H → va_S (fun q : Nat => s.heap.size ≤ q) s.heap H locs → W p l e room_1 s m #[Value.ref b] below meth c H locs (cells + 1) (slots + 12) (lw_Z below #[Value.ref b] s) (F0 m 1195 ls [])) : W p l e room_1 s m #[Value.ref b] below meth c H locs cells slots (lw_Z below #[Value.ref b] s) (F0 m 819 ls []) := by
  obtain ⟨hx, hb, hr, hml, hown, hts0, hX, hbl, hlocks, hgv⟩ := id C0
  have hbA : ¬ (fun q : Nat => s.heap.size ≤ q) b := Nat.not_le.mpr hbl
  have hts : ∀ w ∈ wsL_law, w.before #[Value.ref b] s = true := fun w h => hts0 w (wsL_law_in w h)
  refine lv_aload_n hx hb dL_law_819 rfl (lv_at hl 1 rfl) ?_
  refine lv_aload_n hx hb dL_law_820 rfl (lv_at hl 0 rfl) ?_
  refine lv_iload_n hx hb dL_law_821 rfl (lv_at hl 3 rfl) ?_
  refine lv_iconst (v := 1) hx hb dL_law_822 (by decide) ?_
  refine lv_iadd hx hb dL_law_823 ?_
  refine lv_topi (fun w823 ew823 => ?_)
  have ew823 : w823 = nI (i18 + 1) := by rw [ew823]; exact nI_p i18 1
  subst ew823
  refine va_sld hx hb hX hbl hbA hS (vp_in_nI (n := (i18 + 1)) (by omega) (by omega)) dL_law_824 ?_
  rw [nI_clamp (n := (i18 + 1)) (by omega)]
  refine W.eq (g2 := F0 m 825 ls [.int (xs (i18 + 1)), .ref (cs_X zc 0 0)]) rfl ?_
  refine lv_aload_n hx hb dL_law_825 rfl (lv_at hl 0 rfl) ?_
  refine lv_iload_n hx hb dL_law_826 rfl (lv_at hl 3 rfl) ?_
  refine lv_iconst (v := 2) hx hb dL_law_827 (by decide) ?_
  refine lv_iadd hx hb dL_law_828 ?_
  refine lv_topi (fun w828 ew828 => ?_)
  have ew828 : w828 = nI (i18 + 2) := by rw [ew828]; exact nI_p i18 2
  subst ew828
  refine va_sld hx hb hX hbl hbA hS (vp_in_nI (n := (i18 + 2)) (by omega) (by omega)) dL_law_829 ?_
  rw [nI_clamp (n := (i18 + 2)) (by omega)]
  refine W.eq (g2 := F0 m 830 ls [.int (xs (i18 + 2)), .int (xs (i18 + 1)), .ref (cs_X zc 0 0)]) rfl ?_
  have hFc := hJ.freeC hS (fun _ h => h)
  refine va_calll (va_runV (As := [.int (xs (i18 + 1)), .int (xs (i18 + 2))]) (rest := []) ⟨hx, hb, hml, hown, hts⟩ (K_skill l dC dI cA _ zc (xs (i18 + 1)) (xs (i18 + 2)) hR.1) (cwV 2 hts gL_law_X10_skill rfl rfl rfl (by decide +kernel) ⟨Nat.le_of_ble_eq_true rfl, Nat.le_of_ble_eq_true rfl⟩) (kw_preV (k_recv hKC hJ.1) hJ.1 hKC hJ.2.1.1 hN) rfl rfl hl.1 rfl (lv_room (Nat.le_of_ble_eq_true rfl)) dL_law_830 ⟨by omega, by omega⟩) hS (fun q _ h => hFc q h) hFc (fun r1 ur1 t H1 locs1 ht hvm hr1 hB hz1 hk1 hS1 => ?_)
  have hJ := jS_C hJ hFc ht hB hk1
  have hS := hS1
  clear hk1 hB hS1 hFc ht hvm hz1
  generalize H1 = H at hJ hS ⊢
  generalize locs1 = locs at hS ⊢
  refine lv_pop2_2 hx hb dL_law_833 rfl ?_
  refine lv_aload_n hx hb dL_law_834 rfl (lv_at hl 2 rfl) ?_
  refine lv_aload_n hx hb dL_law_835 rfl (lv_at hl 0 rfl) ?_
  refine lv_iload_n hx hb dL_law_836 rfl (lv_at hl 3 rfl) ?_
  refine lv_iconst (v := 1) hx hb dL_law_837 (by decide) ?_
  refine lv_iadd hx hb dL_law_838 ?_
  refine lv_topi (fun w838 ew838 => ?_)
  have ew838 : w838 = nI (i18 + 1) := by rw [ew838]; exact nI_p i18 1
  subst ew838
  refine va_sld hx hb hX hbl hbA hS (vp_in_nI (n := (i18 + 1)) (by omega) (by omega)) dL_law_839 ?_
  rw [nI_clamp (n := (i18 + 1)) (by omega)]
  refine W.eq (g2 := F0 m 840 ls [.int (xs (i18 + 1)), .ref qm]) rfl ?_
  refine lv_aload_n hx hb dL_law_840 rfl (lv_at hl 0 rfl) ?_
  refine lv_iload_n hx hb dL_law_841 rfl (lv_at hl 3 rfl) ?_
  refine lv_iconst (v := 2) hx hb dL_law_842 (by decide) ?_
  refine lv_iadd hx hb dL_law_843 ?_
  refine lv_topi (fun w843 ew843 => ?_)
  have ew843 : w843 = nI (i18 + 2) := by rw [ew843]; exact nI_p i18 2
  subst ew843
  refine va_sld hx hb hX hbl hbA hS (vp_in_nI (n := (i18 + 2)) (by omega) (by omega)) dL_law_844 ?_
  rw [nI_clamp (n := (i18 + 2)) (by omega)]
  refine W.eq (g2 := F0 m 845 ls [.int (xs (i18 + 2)), .int (xs (i18 + 1)), .ref qm]) rfl ?_
  have hFc := hJ.freeR hS (fun _ h => h)
  refine va_calll (va_runV (As := [.int (xs (i18 + 1)), .int (xs (i18 + 2))]) (rest := []) ⟨hx, hb, hml, hown, hts⟩ (M_skill l dC dI cI cJ cZ _ qm ad zr (xs (i18 + 1)) (xs (i18 + 2)) hR.2.1) (cwV 2 hts gL_law_X11_skill rfl rfl rfl (by decide +kernel) ⟨Nat.le_of_ble_eq_true rfl, Nat.le_of_ble_eq_true rfl⟩) (pw_preV (va_recv hKR hJ.2.2.1 (ci := 11) (q0 := 0) rfl rfl) hJ.2.2.1 hKR hJ.2.2.2.1 hN) rfl rfl hl.1 rfl (lv_room (Nat.le_of_ble_eq_true rfl)) dL_law_845 ⟨by omega, by omega⟩) hS (fun q _ h => hFc q h) hFc (fun r2 ur2 t H1 locs1 ht hvm hr2 hB hz1 hk1 hS1 => ?_)
  have hJ := jS_R hJ hFc ht hB hk1
  have hS := hS1
  clear hk1 hB hS1 hFc ht hvm hz1
  generalize H1 = H at hJ hS ⊢
  generalize locs1 = locs at hS ⊢
  refine lv_pop2_2 hx hb dL_law_848 rfl ?_
  refine lv_goto (tgt := 1195) hx hb dL_law_849 (by decide) ?_
  refine W.widen (k := cells + 1) (n := slots + 12) (by omega) (by omega) ?_
  exact kk ur1 ur2 H locs ⟨hr1.1.1, hr2.1, (stA_skill hR.2.2.1 hr1.2 hr2.2), (stB_skill hR.2.2.2.1 hr1.2 hr2.2), (stC_skill hR.2.2.2.2.1 hr1.2 hr2.2), (stD_skill hR.2.2.2.2.2 hr1.2 hr2.2)⟩ hr1.1.2 hJ hS
