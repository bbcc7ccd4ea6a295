set_option maxHeartbeats 4000000 in
set_option maxRecDepth 100000 in
theorem law_853 {p : Program} {l : Launch} {e : Env} {s : State} {m : MethodId} {below : List Frame} {meth : Method} {c : Code} {b L : Nat} {xs : Nat → Int32} {dC : Nat → ClassId} {dI : Nat → Nat → Nat} {cA : Nat → ClassId} {qm : Nat} {cI cJ cZ : ClassId} {ad : Nat → Nat} {zc : CS} {zr : RS2} {H : Heap} {locs : List Loc} {ls : Array Slot} {i18 cells slots : Nat} (C0 : lw_At p s m meth c b L xs) (hL : L ≤ 3072) (hN : nst s) (hKC : va_K (dC, dI) vwCl (ctys cA) s) (hKR : va_K (dC, dI) vwCl [(cI, .int), (cJ, .long), (cZ, .boolean)] s) (hi : i18 + 6 ≤ L) (hcl : cells + 1 ≤ room_1.cells) (hsl : slots + 12 ≤ room_1.slots) (hR : jR zc zr) (hJ : jS (dC, dI) cA qm cI cJ cZ ad (fun q : Nat => s.heap.size ≤ q) zc zr H) (hS : va_S (fun q : Nat => s.heap.size ≤ q) s.heap H locs) (hl : lv_has ls 4 [(0, .ref b), (1, .ref (cs_X zc 0 0)), (2, .ref qm), (3, .int (nI i18))]) (kk : ∀ (u : CS) (v : RS2) (H : Heap) (locs : List Loc), jR u v → cs_X u 0 0 = cs_X zc 0 0 → jS (dC, dI) cA qm cI cJ cZ ad (fun q : Nat => s.heap.size ≤ q) u v H → va_S (fun q : Nat => s.heap.size ≤ q) s.heap H locs → W p l e room_1 s m #[Value.ref b] below meth c H locs (cells + 1) (slots + 12) (lw_Z below #[Value.ref b] s) (F0 m 1196 ls [])) : W p l e room_1 s m #[Value.ref b] below meth c H locs cells slots (lw_Z below #[Value.ref b] s) (F0 m 853 ls []) := by
  obtain ⟨hx, hb, hr, hml, hown, hts0, hX, hbl, hlocks, hgv⟩ := id C0
  have hbA : ¬ (fun q : Nat => s.heap.size ≤ q) b := Nat.not_le.mpr hbl
  have hts : ∀ w ∈ wsL_law, w.before #[Value.ref b] s = true := fun w h => hts0 w (wsL_law_in w h)
  refine lv_aload_n hx hb dL_law_853 rfl (lv_at hl 1 rfl) ?_
  refine lv_aload_n hx hb dL_law_854 rfl (lv_at hl 0 rfl) ?_
  refine lv_iload_n hx hb dL_law_855 rfl (lv_at hl 3 rfl) ?_
  refine lv_iconst (v := 1) hx hb dL_law_856 (by decide) ?_
  refine lv_iadd hx hb dL_law_857 ?_
  refine lv_topi (fun w857 ew857 => ?_)
  have ew857 : w857 = nI (i18 + 1) := by rw [ew857]; exact nI_p i18 1
  subst ew857
  refine va_sld hx hb hX hbl hbA hS (vp_in_nI (n := (i18 + 1)) (by omega) (by omega)) dL_law_858 ?_
  rw [nI_clamp (n := (i18 + 1)) (by omega)]
  refine W.eq (g2 := F0 m 859 ls [.int (xs (i18 + 1)), .ref (cs_X zc 0 0)]) rfl ?_
  refine lv_aload_n hx hb dL_law_859 rfl (lv_at hl 0 rfl) ?_
  refine lv_iload_n hx hb dL_law_860 rfl (lv_at hl 3 rfl) ?_
  refine lv_iconst (v := 2) hx hb dL_law_861 (by decide) ?_
  refine lv_iadd hx hb dL_law_862 ?_
  refine lv_topi (fun w862 ew862 => ?_)
  have ew862 : w862 = nI (i18 + 2) := by rw [ew862]; exact nI_p i18 2
  subst ew862
  refine va_sld hx hb hX hbl hbA hS (vp_in_nI (n := (i18 + 2)) (by omega) (by omega)) dL_law_863 ?_
  rw [nI_clamp (n := (i18 + 2)) (by omega)]
  refine W.eq (g2 := F0 m 864 ls [.int (xs (i18 + 2)), .int (xs (i18 + 1)), .ref (cs_X zc 0 0)]) rfl ?_
  refine lv_aload_n hx hb dL_law_864 rfl (lv_at hl 0 rfl) ?_
  refine lv_iload_n hx hb dL_law_865 rfl (lv_at hl 3 rfl) ?_
  refine lv_iconst (v := 3) hx hb dL_law_866 (by decide) ?_
  refine lv_iadd hx hb dL_law_867 ?_
  refine lv_topi (fun w867 ew867 => ?_)
  have ew867 : w867 = nI (i18 + 3) := by rw [ew867]; exact nI_p i18 3
  subst ew867
  refine va_sld hx hb hX hbl hbA hS (vp_in_nI (n := (i18 + 3)) (by omega) (by omega)) dL_law_868 ?_
  rw [nI_clamp (n := (i18 + 3)) (by omega)]
  refine W.eq (g2 := F0 m 869 ls [.int (xs (i18 + 3)), .int (xs (i18 + 2)), .int (xs (i18 + 1)), .ref (cs_X zc 0 0)]) rfl ?_
  have hFc := hJ.freeC hS (fun _ h => h)
  refine va_calli (va_runV (As := [.int (xs (i18 + 1)), .int (xs (i18 + 2)), .int (xs (i18 + 3))]) (rest := []) ⟨hx, hb, hml, hown, hts⟩ (K_sheet l dC dI cA _ zc (xs (i18 + 1)) (xs (i18 + 2)) (xs (i18 + 3)) hR.1) (cwV 3 hts gL_law_X10_sheet rfl rfl rfl (by decide +kernel) ⟨Nat.le_of_ble_eq_true rfl, Nat.le_of_ble_eq_true rfl⟩) (kw_preV (k_recv hKC hJ.1) hJ.1 hKC hJ.2.1.1 hN) rfl rfl hl.1 rfl (lv_room (Nat.le_of_ble_eq_true rfl)) dL_law_869 ⟨by omega, by omega⟩) hS (fun q _ h => hFc q h) hFc (fun r1 ur1 t H1 locs1 ht hvm hr1 hB hz1 hk1 hS1 => ?_)
  have hJ := jS_C hJ hFc ht hB hk1
  have hS := hS1
  clear hk1 hB hS1 hFc ht hvm hz1
  generalize H1 = H at hJ hS ⊢
  generalize locs1 = locs at hS ⊢
  refine lv_pop hx hb dL_law_872 rfl ?_
  refine lv_aload_n hx hb dL_law_873 rfl (lv_at hl 2 rfl) ?_
  refine lv_aload_n hx hb dL_law_874 rfl (lv_at hl 0 rfl) ?_
  refine lv_iload_n hx hb dL_law_875 rfl (lv_at hl 3 rfl) ?_
  refine lv_iconst (v := 1) hx hb dL_law_876 (by decide) ?_
  refine lv_iadd hx hb dL_law_877 ?_
  refine lv_topi (fun w877 ew877 => ?_)
  have ew877 : w877 = nI (i18 + 1) := by rw [ew877]; exact nI_p i18 1
  subst ew877
  refine va_sld hx hb hX hbl hbA hS (vp_in_nI (n := (i18 + 1)) (by omega) (by omega)) dL_law_878 ?_
  rw [nI_clamp (n := (i18 + 1)) (by omega)]
  refine W.eq (g2 := F0 m 879 ls [.int (xs (i18 + 1)), .ref qm]) rfl ?_
  refine lv_aload_n hx hb dL_law_879 rfl (lv_at hl 0 rfl) ?_
  refine lv_iload_n hx hb dL_law_880 rfl (lv_at hl 3 rfl) ?_
  refine lv_iconst (v := 2) hx hb dL_law_881 (by decide) ?_
  refine lv_iadd hx hb dL_law_882 ?_
  refine lv_topi (fun w882 ew882 => ?_)
  have ew882 : w882 = nI (i18 + 2) := by rw [ew882]; exact nI_p i18 2
  subst ew882
  refine va_sld hx hb hX hbl hbA hS (vp_in_nI (n := (i18 + 2)) (by omega) (by omega)) dL_law_883 ?_
  rw [nI_clamp (n := (i18 + 2)) (by omega)]
  refine W.eq (g2 := F0 m 884 ls [.int (xs (i18 + 2)), .int (xs (i18 + 1)), .ref qm]) rfl ?_
  refine lv_aload_n hx hb dL_law_884 rfl (lv_at hl 0 rfl) ?_
  refine lv_iload_n hx hb dL_law_885 rfl (lv_at hl 3 rfl) ?_
  refine lv_iconst (v := 3) hx hb dL_law_886 (by decide) ?_
  refine lv_iadd hx hb dL_law_887 ?_
  refine lv_topi (fun w887 ew887 => ?_)
  have ew887 : w887 = nI (i18 + 3) := by rw [ew887]; exact nI_p i18 3
  subst ew887
  refine va_sld hx hb hX hbl hbA hS (vp_in_nI (n := (i18 + 3)) (by omega) (by omega)) dL_law_888 ?_
  rw [nI_clamp (n := (i18 + 3)) (by omega)]
  refine W.eq (g2 := F0 m 889 ls [.int (xs (i18 + 3)), .int (xs (i18 + 2)), .int (xs (i18 + 1)), .ref qm]) rfl ?_
  have hFc := hJ.freeR hS (fun _ h => h)
  refine va_calli (va_runV (As := [.int (xs (i18 + 1)), .int (xs (i18 + 2)), .int (xs (i18 + 3))]) (rest := []) ⟨hx, hb, hml, hown, hts⟩ (M_sheet l dC dI cI cJ cZ _ qm ad zr (xs (i18 + 1)) (xs (i18 + 2)) (xs (i18 + 3)) hR.2.1) (cwV 3 hts gL_law_X11_sheet rfl rfl rfl (by decide +kernel) ⟨Nat.le_of_ble_eq_true rfl, Nat.le_of_ble_eq_true rfl⟩) (pw_preV (va_recv hKR hJ.2.2.1 (ci := 11) (q0 := 0) rfl rfl) hJ.2.2.1 hKR hJ.2.2.2.1 hN) rfl rfl hl.1 rfl (lv_room (Nat.le_of_ble_eq_true rfl)) dL_law_889 ⟨by omega, by omega⟩) hS (fun q _ h => hFc q h) hFc (fun r2 ur2 t H1 locs1 ht hvm hr2 hB hz1 hk1 hS1 => ?_)
  have hJ := jS_R hJ hFc ht hB hk1
  have hS := hS1
  clear hk1 hB hS1 hFc ht hvm hz1
  generalize H1 = H at hJ hS ⊢
  generalize locs1 = locs at hS ⊢
  refine lv_pop hx hb dL_law_892 rfl ?_
  refine lv_goto (tgt := 1196) hx hb dL_law_893 (by decide) ?_
  refine W.widen (k := cells + 1) (n := slots + 12) (by omega) (by omega) ?_
  exact kk ur1 ur2 H locs ⟨hr1.1.1, hr2.1, (stA_sheet hR.2.2.1 hr1.2 hr2.2), (stB_sheet hR.2.2.2.1 hr1.2 hr2.2).1, (stC_sheet hR.2.2.2.2.1 hr1.2 hr2.2), (stD_sheet hR.2.2.2.2.2 hr1.2 hr2.2)⟩ hr1.1.2 hJ hS
set_option maxHeartbeats 4000000 in
set_option maxRecDepth 100000 in
theorem law_896 {p : Program} {l : Launch} {e : Env} {s : State} {m : MethodId} {below : List Frame} {meth : Method} {c : Code} {b L : Nat} {xs : Nat → Int32} {dC : Nat → ClassId} {dI : Nat → Nat → Nat} {cA : Nat → ClassId} {qm : Nat} {cI cJ cZ : ClassId} {ad : Nat → Nat} {zc : CS} {zr : RS2} {H : Heap} {locs : List Loc} {ls : Array Slot} {i18 cells slots : Nat} (C0 : lw_At p s m meth c b L xs) (hL : L ≤ 3072) (hN : nst s) (hKC : va_K (dC, dI) vwCl (ctys cA) s) (hKR : va_K (dC, dI) vwCl [(cI, .int), (cJ, .long), (cZ, .boolean)] s) (hi : i18 + 6 ≤ L) (hcl : cells + 1 ≤ room_1.cells) (hsl : slots + 12 ≤ room_1.slots) (hR : jR zc zr) (hJ : jS (dC, dI) cA qm cI cJ cZ ad (fun q : Nat => s.heap.size ≤ q) zc zr H) (hS : va_S (fun q : Nat => s.heap.size ≤ q) s.heap H locs) (hl : lv_has ls 4 [(0, .ref b), (1, .ref (cs_X zc 0 0)), (2, .ref qm), (3, .int (nI i18))]) (kk : ∀ (u : CS) (v : RS2) (H : Heap) (locs : List Loc), jR u v → cs_X u 0 0 = cs_X zc 0 0 → jS (dC, dI) cA qm cI cJ cZ ad (fun q : Nat => s.heap.size ≤ q) u v H → va_S (fun q : Nat => s.heap.size ≤ q) s.heap H locs → W p l e room_1 s m #[Value.ref b] below meth c H locs (cells + 1) (slots + 12) (lw_Z below #[Value.ref b] s) (F0 m 1196 ls [])) : W p l e room_1 s m #[Value.ref b] below meth c H locs cells slots (lw_Z below #[Value.ref b] s) (F0 m 896 ls []) := by
  obtain ⟨hx, hb, hr, hml, hown, hts0, hX, hbl, hlocks, hgv⟩ := id C0
  have hbA : ¬ (fun q : Nat => s.heap.size ≤ q) b := Nat.not_le.mpr hbl
  have hts : ∀ w ∈ wsL_law, w.before #[Value.ref b] s = true := fun w h => hts0 w (wsL_law_in w h)
  refine lv_aload_n hx hb dL_law_896 rfl (lv_at hl 1 rfl) ?_
  refine lv_aload_n hx hb dL_law_897 rfl (lv_at hl 0 rfl) ?_
  refine lv_iload_n hx hb dL_law_898 rfl (lv_at hl 3 rfl) ?_
  refine lv_iconst (v := 1) hx hb dL_law_899 (by decide) ?_
  refine lv_iadd hx hb dL_law_900 ?_
  refine lv_topi (fun w900 ew900 => ?_)
  have ew900 : w900 = nI (i18 + 1) := by rw [ew900]; exact nI_p i18 1
  subst ew900
  refine va_sld hx hb hX hbl hbA hS (vp_in_nI (n := (i18 + 1)) (by omega) (by omega)) dL_law_901 ?_
  rw [nI_clamp (n := (i18 + 1)) (by omega)]
  refine W.eq (g2 := F0 m 902 ls [.int (xs (i18 + 1)), .ref (cs_X zc 0 0)]) rfl ?_
  have hFc := hJ.freeC hS (fun _ h => h)
  refine va_calli (va_runV (As := [.int (xs (i18 + 1))]) (rest := []) ⟨hx, hb, hml, hown, hts⟩ (K_lose l dC dI cA _ zc (xs (i18 + 1)) hR.1) (cwV 1 hts gL_law_X10_lose rfl rfl rfl (by decide +kernel) ⟨Nat.le_of_ble_eq_true rfl, Nat.le_of_ble_eq_true rfl⟩) (kw_preV (k_recv hKC hJ.1) hJ.1 hKC hJ.2.1.1 hN) rfl rfl hl.1 rfl (lv_room (Nat.le_of_ble_eq_true rfl)) dL_law_902 ⟨by omega, by omega⟩) hS (fun q _ h => hFc q h) hFc (fun r1 ur1 t H1 locs1 ht hvm hr1 hB hz1 hk1 hS1 => ?_)
  have hJ := jS_C hJ hFc ht hB hk1
  have hS := hS1
  clear hk1 hB hS1 hFc ht hvm hz1
  generalize H1 = H at hJ hS ⊢
  generalize locs1 = locs at hS ⊢
  refine lv_pop hx hb dL_law_905 rfl ?_
  refine lv_aload_n hx hb dL_law_906 rfl (lv_at hl 2 rfl) ?_
  refine lv_aload_n hx hb dL_law_907 rfl (lv_at hl 0 rfl) ?_
  refine lv_iload_n hx hb dL_law_908 rfl (lv_at hl 3 rfl) ?_
  refine lv_iconst (v := 1) hx hb dL_law_909 (by decide) ?_
  refine lv_iadd hx hb dL_law_910 ?_
  refine lv_topi (fun w910 ew910 => ?_)
  have ew910 : w910 = nI (i18 + 1) := by rw [ew910]; exact nI_p i18 1
  subst ew910
  refine va_sld hx hb hX hbl hbA hS (vp_in_nI (n := (i18 + 1)) (by omega) (by omega)) dL_law_911 ?_
  rw [nI_clamp (n := (i18 + 1)) (by omega)]
  refine W.eq (g2 := F0 m 912 ls [.int (xs (i18 + 1)), .ref qm]) rfl ?_
  have hFc := hJ.freeR hS (fun _ h => h)
  refine va_calli (va_runV (As := [.int (xs (i18 + 1))]) (rest := []) ⟨hx, hb, hml, hown, hts⟩ (M_lose l dC dI cI cJ cZ _ qm ad zr (xs (i18 + 1)) hR.2.1) (cwV 1 hts gL_law_X11_lose rfl rfl rfl (by decide +kernel) ⟨Nat.le_of_ble_eq_true rfl, Nat.le_of_ble_eq_true rfl⟩) (pw_preV (va_recv hKR hJ.2.2.1 (ci := 11) (q0 := 0) rfl rfl) hJ.2.2.1 hKR hJ.2.2.2.1 hN) rfl rfl hl.1 rfl (lv_room (Nat.le_of_ble_eq_true rfl)) dL_law_912 ⟨by omega, by omega⟩) hS (fun q _ h => hFc q h) hFc (fun r2 ur2 t H1 locs1 ht hvm hr2 hB hz1 hk1 hS1 => ?_)
  have hJ := jS_R hJ hFc ht hB hk1
  have hS := hS1
  clear hk1 hB hS1 hFc ht hvm hz1
  generalize H1 = H at hJ hS ⊢
  generalize locs1 = locs at hS ⊢
  refine lv_pop hx hb dL_law_915 rfl ?_
  refine lv_goto (tgt := 1196) hx hb dL_law_916 (by decide) ?_
  refine W.widen (k := cells + 1) (n := slots + 12) (by omega) (by omega) ?_
  exact kk ur1 ur2 H locs ⟨hr1.1.1, hr2.1, (stA_lose hR.2.2.1 hr1.2 hr2.2), (stB_lose hR.2.2.2.1 hr1.2 hr2.2).1, (stC_lose hR.2.2.2.2.1 hr1.2 hr2.2), (stD_lose hR.2.2.2.2.2 hr1.2 hr2.2)⟩ hr1.1.2 hJ hS
set_option maxHeartbeats 4000000 in
set_option maxRecDepth 100000 in
theorem law_919 {p : Program} {l : Launch} {e : Env} {s : State} {m : MethodId} {below : List Frame} {meth : Method} {c : Code} {b L : Nat} {xs : Nat → Int32} {dC : Nat → ClassId} {dI : Nat → Nat → Nat} {cA : Nat → ClassId} {qm : Nat} {cI cJ cZ : ClassId} {ad : Nat → Nat} {zc : CS} {zr : RS2} {H : Heap} {locs : List Loc} {ls : Array Slot} {i18 cells slots : Nat} (C0 : lw_At p s m meth c b L xs) (hL : L ≤ 3072) (hN : nst s) (hKC : va_K (dC, dI) vwCl (ctys cA) s) (hKR : va_K (dC, dI) vwCl [(cI, .int), (cJ, .long), (cZ, .boolean)] s) (hi : i18 + 6 ≤ L) (hcl : cells + 1 ≤ room_1.cells) (hsl : slots + 12 ≤ room_1.slots) (hR : jR zc zr) (hJ : jS (dC, dI) cA qm cI cJ cZ ad (fun q : Nat => s.heap.size ≤ q) zc zr H) (hS : va_S (fun q : Nat => s.heap.size ≤ q) s.heap H locs) (hl : lv_has ls 4 [(0, .ref b), (1, .ref (cs_X zc 0 0)), (2, .ref qm), (3, .int (nI i18))]) (kk : ∀ (u : CS) (v : RS2) (H : Heap) (locs : List Loc), jR u v → cs_X u 0 0 = cs_X zc 0 0 → jS (dC, dI) cA qm cI cJ cZ ad (fun q : Nat => s.heap.size ≤ q) u v H → va_S (fun q : Nat => s.heap.size ≤ q) s.heap H locs → W p l e room_1 s m #[Value.ref b] below meth c H locs (cells + 1) (slots + 12) (lw_Z below #[Value.ref b] s) (F0 m 1196 ls [])) : W p l e room_1 s m #[Value.ref b] below meth c H locs cells slots (lw_Z below #[Value.ref b] s) (F0 m 919 ls []) := by
  obtain ⟨hx, hb, hr, hml, hown, hts0, hX, hbl, hlocks, hgv⟩ := id C0
  have hbA : ¬ (fun q : Nat => s.heap.size ≤ q) b := Nat.not_le.mpr hbl
  have hts : ∀ w ∈ wsL_law, w.before #[Value.ref b] s = true := fun w h => hts0 w (wsL_law_in w h)
  refine lv_aload_n hx hb dL_law_919 rfl (lv_at hl 1 rfl) ?_
  refine lv_aload_n hx hb dL_law_920 rfl (lv_at hl 0 rfl) ?_
  refine lv_iload_n hx hb dL_law_921 rfl (lv_at hl 3 rfl) ?_
  refine lv_iconst (v := 1) hx hb dL_law_922 (by decide) ?_
  refine lv_iadd hx hb dL_law_923 ?_
  refine lv_topi (fun w923 ew923 => ?_)
  have ew923 : w923 = nI (i18 + 1) := by rw [ew923]; exact nI_p i18 1
  subst ew923
  refine va_sld hx hb hX hbl hbA hS (vp_in_nI (n := (i18 + 1)) (by omega) (by omega)) dL_law_924 ?_
  rw [nI_clamp (n := (i18 + 1)) (by omega)]
  refine W.eq (g2 := F0 m 925 ls [.int (xs (i18 + 1)), .ref (cs_X zc 0 0)]) rfl ?_
  refine lv_aload_n hx hb dL_law_925 rfl (lv_at hl 0 rfl) ?_
  refine lv_iload_n hx hb dL_law_926 rfl (lv_at hl 3 rfl) ?_
  refine lv_iconst (v := 2) hx hb dL_law_927 (by decide) ?_
  refine lv_iadd hx hb dL_law_928 ?_
  refine lv_topi (fun w928 ew928 => ?_)
  have ew928 : w928 = nI (i18 + 2) := by rw [ew928]; exact nI_p i18 2
  subst ew928
  refine va_sld hx hb hX hbl hbA hS (vp_in_nI (n := (i18 + 2)) (by omega) (by omega)) dL_law_929 ?_
  rw [nI_clamp (n := (i18 + 2)) (by omega)]
  refine W.eq (g2 := F0 m 930 ls [.int (xs (i18 + 2)), .int (xs (i18 + 1)), .ref (cs_X zc 0 0)]) rfl ?_
  refine lv_aload_n hx hb dL_law_930 rfl (lv_at hl 0 rfl) ?_
  refine lv_iload_n hx hb dL_law_931 rfl (lv_at hl 3 rfl) ?_
  refine lv_iconst (v := 3) hx hb dL_law_932 (by decide) ?_
  refine lv_iadd hx hb dL_law_933 ?_
  refine lv_topi (fun w933 ew933 => ?_)
  have ew933 : w933 = nI (i18 + 3) := by rw [ew933]; exact nI_p i18 3
  subst ew933
  refine va_sld hx hb hX hbl hbA hS (vp_in_nI (n := (i18 + 3)) (by omega) (by omega)) dL_law_934 ?_
  rw [nI_clamp (n := (i18 + 3)) (by omega)]
  refine W.eq (g2 := F0 m 935 ls [.int (xs (i18 + 3)), .int (xs (i18 + 2)), .int (xs (i18 + 1)), .ref (cs_X zc 0 0)]) rfl ?_
  have hFc := hJ.freeC hS (fun _ h => h)
  refine va_calli (va_runV (As := [.int (xs (i18 + 1)), .int (xs (i18 + 2)), .int (xs (i18 + 3))]) (rest := []) ⟨hx, hb, hml, hown, hts⟩ (K_put l dC dI cA _ zc (xs (i18 + 1)) (xs (i18 + 2)) (xs (i18 + 3)) hR.1) (cwV 3 hts gL_law_X10_put rfl rfl rfl (by decide +kernel) ⟨Nat.le_of_ble_eq_true rfl, Nat.le_of_ble_eq_true rfl⟩) (kw_preV (k_recv hKC hJ.1) hJ.1 hKC hJ.2.1.1 hN) rfl rfl hl.1 rfl (lv_room (Nat.le_of_ble_eq_true rfl)) dL_law_935 ⟨by omega, by omega⟩) hS (fun q _ h => hFc q h) hFc (fun r1 ur1 t H1 locs1 ht hvm hr1 hB hz1 hk1 hS1 => ?_)
  have hJ := jS_C hJ hFc ht hB hk1
  have hS := hS1
  clear hk1 hB hS1 hFc ht hvm hz1
  generalize H1 = H at hJ hS ⊢
  generalize locs1 = locs at hS ⊢
  refine lv_pop hx hb dL_law_938 rfl ?_
  refine lv_aload_n hx hb dL_law_939 rfl (lv_at hl 2 rfl) ?_
  refine lv_aload_n hx hb dL_law_940 rfl (lv_at hl 0 rfl) ?_
  refine lv_iload_n hx hb dL_law_941 rfl (lv_at hl 3 rfl) ?_
  refine lv_iconst (v := 1) hx hb dL_law_942 (by decide) ?_
  refine lv_iadd hx hb dL_law_943 ?_
  refine lv_topi (fun w943 ew943 => ?_)
  have ew943 : w943 = nI (i18 + 1) := by rw [ew943]; exact nI_p i18 1
  subst ew943
  refine va_sld hx hb hX hbl hbA hS (vp_in_nI (n := (i18 + 1)) (by omega) (by omega)) dL_law_944 ?_
  rw [nI_clamp (n := (i18 + 1)) (by omega)]
  refine W.eq (g2 := F0 m 945 ls [.int (xs (i18 + 1)), .ref qm]) rfl ?_
  refine lv_aload_n hx hb dL_law_945 rfl (lv_at hl 0 rfl) ?_
  refine lv_iload_n hx hb dL_law_946 rfl (lv_at hl 3 rfl) ?_
  refine lv_iconst (v := 2) hx hb dL_law_947 (by decide) ?_
  refine lv_iadd hx hb dL_law_948 ?_
  refine lv_topi (fun w948 ew948 => ?_)
  have ew948 : w948 = nI (i18 + 2) := by rw [ew948]; exact nI_p i18 2
  subst ew948
  refine va_sld hx hb hX hbl hbA hS (vp_in_nI (n := (i18 + 2)) (by omega) (by omega)) dL_law_949 ?_
  rw [nI_clamp (n := (i18 + 2)) (by omega)]
  refine W.eq (g2 := F0 m 950 ls [.int (xs (i18 + 2)), .int (xs (i18 + 1)), .ref qm]) rfl ?_
  refine lv_aload_n hx hb dL_law_950 rfl (lv_at hl 0 rfl) ?_
  refine lv_iload_n hx hb dL_law_951 rfl (lv_at hl 3 rfl) ?_
  refine lv_iconst (v := 3) hx hb dL_law_952 (by decide) ?_
  refine lv_iadd hx hb dL_law_953 ?_
  refine lv_topi (fun w953 ew953 => ?_)
  have ew953 : w953 = nI (i18 + 3) := by rw [ew953]; exact nI_p i18 3
  subst ew953
  refine va_sld hx hb hX hbl hbA hS (vp_in_nI (n := (i18 + 3)) (by omega) (by omega)) dL_law_954 ?_
  rw [nI_clamp (n := (i18 + 3)) (by omega)]
  refine W.eq (g2 := F0 m 955 ls [.int (xs (i18 + 3)), .int (xs (i18 + 2)), .int (xs (i18 + 1)), .ref qm]) rfl ?_
  have hFc := hJ.freeR hS (fun _ h => h)
  refine va_calli (va_runV (As := [.int (xs (i18 + 1)), .int (xs (i18 + 2)), .int (xs (i18 + 3))]) (rest := []) ⟨hx, hb, hml, hown, hts⟩ (M_put l dC dI cI cJ cZ _ qm ad zr (xs (i18 + 1)) (xs (i18 + 2)) (xs (i18 + 3)) hR.2.1) (cwV 3 hts gL_law_X11_put rfl rfl rfl (by decide +kernel) ⟨Nat.le_of_ble_eq_true rfl, Nat.le_of_ble_eq_true rfl⟩) (pw_preV (va_recv hKR hJ.2.2.1 (ci := 11) (q0 := 0) rfl rfl) hJ.2.2.1 hKR hJ.2.2.2.1 hN) rfl rfl hl.1 rfl (lv_room (Nat.le_of_ble_eq_true rfl)) dL_law_955 ⟨by omega, by omega⟩) hS (fun q _ h => hFc q h) hFc (fun r2 ur2 t H1 locs1 ht hvm hr2 hB hz1 hk1 hS1 => ?_)
  have hJ := jS_R hJ hFc ht hB hk1
  have hS := hS1
  clear hk1 hB hS1 hFc ht hvm hz1
  generalize H1 = H at hJ hS ⊢
  generalize locs1 = locs at hS ⊢
  refine lv_pop hx hb dL_law_958 rfl ?_
  refine lv_goto (tgt := 1196) hx hb dL_law_959 (by decide) ?_
  refine W.widen (k := cells + 1) (n := slots + 12) (by omega) (by omega) ?_
  exact kk ur1 ur2 H locs ⟨hr1.1.1, hr2.1, (stA_put hR.2.2.1 hr1.2 hr2.2), (stB_put hR.2.2.2.1 hr1.2 hr2.2).1, (stC_put hR.2.2.2.2.1 hr1.2 hr2.2), (stD_put hR.2.2.2.2.2 hr1.2 hr2.2)⟩ hr1.1.2 hJ hS
set_option maxHeartbeats 4000000 in
set_option maxRecDepth 100000 in
theorem law_962 {p : Program} {l : Launch} {e : Env} {s : State} {m : MethodId} {below : List Frame} {meth : Method} {c : Code} {b L : Nat} {xs : Nat → Int32} {dC : Nat → ClassId} {dI : Nat → Nat → Nat} {cA : Nat → ClassId} {qm : Nat} {cI cJ cZ : ClassId} {ad : Nat → Nat} {zc : CS} {zr : RS2} {H : Heap} {locs : List Loc} {ls : Array Slot} {i18 cells slots : Nat} (C0 : lw_At p s m meth c b L xs) (hL : L ≤ 3072) (hN : nst s) (hKC : va_K (dC, dI) vwCl (ctys cA) s) (hKR : va_K (dC, dI) vwCl [(cI, .int), (cJ, .long), (cZ, .boolean)] s) (hi : i18 + 6 ≤ L) (hcl : cells + 1 ≤ room_1.cells) (hsl : slots + 12 ≤ room_1.slots) (hR : jR zc zr) (hJ : jS (dC, dI) cA qm cI cJ cZ ad (fun q : Nat => s.heap.size ≤ q) zc zr H) (hS : va_S (fun q : Nat => s.heap.size ≤ q) s.heap H locs) (hl : lv_has ls 4 [(0, .ref b), (1, .ref (cs_X zc 0 0)), (2, .ref qm), (3, .int (nI i18))]) (kk : ∀ (u : CS) (v : RS2) (H : Heap) (locs : List Loc), jR u v → cs_X u 0 0 = cs_X zc 0 0 → jS (dC, dI) cA qm cI cJ cZ ad (fun q : Nat => s.heap.size ≤ q) u v H → va_S (fun q : Nat => s.heap.size ≤ q) s.heap H locs → W p l e room_1 s m #[Value.ref b] below meth c H locs (cells + 1) (slots + 12) (lw_Z below #[Value.ref b] s) (F0 m 1196 ls [])) : W p l e room_1 s m #[Value.ref b] below meth c H locs cells slots (lw_Z below #[Value.ref b] s) (F0 m 962 ls []) := by
  obtain ⟨hx, hb, hr, hml, hown, hts0, hX, hbl, hlocks, hgv⟩ := id C0
  have hbA : ¬ (fun q : Nat => s.heap.size ≤ q) b := Nat.not_le.mpr hbl
  have hts : ∀ w ∈ wsL_law, w.before #[Value.ref b] s = true := fun w h => hts0 w (wsL_law_in w h)
  refine lv_aload_n hx hb dL_law_962 rfl (lv_at hl 1 rfl) ?_
  refine lv_aload_n hx hb dL_law_963 rfl (lv_at hl 0 rfl) ?_
  refine lv_iload_n hx hb dL_law_964 rfl (lv_at hl 3 rfl) ?_
  refine lv_iconst (v := 1) hx hb dL_law_965 (by decide) ?_
  refine lv_iadd hx hb dL_law_966 ?_
  refine lv_topi (fun w966 ew966 => ?_)
  have ew966 : w966 = nI (i18 + 1) := by rw [ew966]; exact nI_p i18 1
  subst ew966
  refine va_sld hx hb hX hbl hbA hS (vp_in_nI (n := (i18 + 1)) (by omega) (by omega)) dL_law_967 ?_
  rw [nI_clamp (n := (i18 + 1)) (by omega)]
  refine W.eq (g2 := F0 m 968 ls [.int (xs (i18 + 1)), .ref (cs_X zc 0 0)]) rfl ?_
  refine lv_aload_n hx hb dL_law_968 rfl (lv_at hl 0 rfl) ?_
  refine lv_iload_n hx hb dL_law_969 rfl (lv_at hl 3 rfl) ?_
  refine lv_iconst (v := 2) hx hb dL_law_970 (by decide) ?_
  refine lv_iadd hx hb dL_law_971 ?_
  refine lv_topi (fun w971 ew971 => ?_)
  have ew971 : w971 = nI (i18 + 2) := by rw [ew971]; exact nI_p i18 2
  subst ew971
  refine va_sld hx hb hX hbl hbA hS (vp_in_nI (n := (i18 + 2)) (by omega) (by omega)) dL_law_972 ?_
  rw [nI_clamp (n := (i18 + 2)) (by omega)]
  refine W.eq (g2 := F0 m 973 ls [.int (xs (i18 + 2)), .int (xs (i18 + 1)), .ref (cs_X zc 0 0)]) rfl ?_
  refine lv_aload_n hx hb dL_law_973 rfl (lv_at hl 0 rfl) ?_
  refine lv_iload_n hx hb dL_law_974 rfl (lv_at hl 3 rfl) ?_
  refine lv_iconst (v := 3) hx hb dL_law_975 (by decide) ?_
  refine lv_iadd hx hb dL_law_976 ?_
  refine lv_topi (fun w976 ew976 => ?_)
  have ew976 : w976 = nI (i18 + 3) := by rw [ew976]; exact nI_p i18 3
  subst ew976
  refine va_sld hx hb hX hbl hbA hS (vp_in_nI (n := (i18 + 3)) (by omega) (by omega)) dL_law_977 ?_
  rw [nI_clamp (n := (i18 + 3)) (by omega)]
  refine W.eq (g2 := F0 m 978 ls [.int (xs (i18 + 3)), .int (xs (i18 + 2)), .int (xs (i18 + 1)), .ref (cs_X zc 0 0)]) rfl ?_
  have hFc := hJ.freeC hS (fun _ h => h)
  refine va_calll (va_runV (As := [.int (xs (i18 + 1)), .int (xs (i18 + 2)), .int (xs (i18 + 3))]) (rest := []) ⟨hx, hb, hml, hown, hts⟩ (K_cell l dC dI cA _ zc (xs (i18 + 1)) (xs (i18 + 2)) (xs (i18 + 3)) hR.1) (cwV 3 hts gL_law_X10_cell rfl rfl rfl (by decide +kernel) ⟨Nat.le_of_ble_eq_true rfl, Nat.le_of_ble_eq_true rfl⟩) (kw_preV (k_recv hKC hJ.1) hJ.1 hKC hJ.2.1.1 hN) rfl rfl hl.1 rfl (lv_room (Nat.le_of_ble_eq_true rfl)) dL_law_978 ⟨by omega, by omega⟩) hS (fun q _ h => hFc q h) hFc (fun r1 ur1 t H1 locs1 ht hvm hr1 hB hz1 hk1 hS1 => ?_)
  have hJ := jS_C hJ hFc ht hB hk1
  have hS := hS1
  clear hk1 hB hS1 hFc ht hvm hz1
  generalize H1 = H at hJ hS ⊢
  generalize locs1 = locs at hS ⊢
  refine lv_pop2_2 hx hb dL_law_981 rfl ?_
  refine lv_aload_n hx hb dL_law_982 rfl (lv_at hl 2 rfl) ?_
  refine lv_aload_n hx hb dL_law_983 rfl (lv_at hl 0 rfl) ?_
  refine lv_iload_n hx hb dL_law_984 rfl (lv_at hl 3 rfl) ?_
  refine lv_iconst (v := 1) hx hb dL_law_985 (by decide) ?_
  refine lv_iadd hx hb dL_law_986 ?_
  refine lv_topi (fun w986 ew986 => ?_)
  have ew986 : w986 = nI (i18 + 1) := by rw [ew986]; exact nI_p i18 1
  subst ew986
  refine va_sld hx hb hX hbl hbA hS (vp_in_nI (n := (i18 + 1)) (by omega) (by omega)) dL_law_987 ?_
  rw [nI_clamp (n := (i18 + 1)) (by omega)]
  refine W.eq (g2 := F0 m 988 ls [.int (xs (i18 + 1)), .ref qm]) rfl ?_
  refine lv_aload_n hx hb dL_law_988 rfl (lv_at hl 0 rfl) ?_
  refine lv_iload_n hx hb dL_law_989 rfl (lv_at hl 3 rfl) ?_
  refine lv_iconst (v := 2) hx hb dL_law_990 (by decide) ?_
  refine lv_iadd hx hb dL_law_991 ?_
  refine lv_topi (fun w991 ew991 => ?_)
  have ew991 : w991 = nI (i18 + 2) := by rw [ew991]; exact nI_p i18 2
  subst ew991
  refine va_sld hx hb hX hbl hbA hS (vp_in_nI (n := (i18 + 2)) (by omega) (by omega)) dL_law_992 ?_
  rw [nI_clamp (n := (i18 + 2)) (by omega)]
  refine W.eq (g2 := F0 m 993 ls [.int (xs (i18 + 2)), .int (xs (i18 + 1)), .ref qm]) rfl ?_
  refine lv_aload_n hx hb dL_law_993 rfl (lv_at hl 0 rfl) ?_
  refine lv_iload_n hx hb dL_law_994 rfl (lv_at hl 3 rfl) ?_
  refine lv_iconst (v := 3) hx hb dL_law_995 (by decide) ?_
  refine lv_iadd hx hb dL_law_996 ?_
  refine lv_topi (fun w996 ew996 => ?_)
  have ew996 : w996 = nI (i18 + 3) := by rw [ew996]; exact nI_p i18 3
  subst ew996
  refine va_sld hx hb hX hbl hbA hS (vp_in_nI (n := (i18 + 3)) (by omega) (by omega)) dL_law_997 ?_
  rw [nI_clamp (n := (i18 + 3)) (by omega)]
  refine W.eq (g2 := F0 m 998 ls [.int (xs (i18 + 3)), .int (xs (i18 + 2)), .int (xs (i18 + 1)), .ref qm]) rfl ?_
  have hFc := hJ.freeR hS (fun _ h => h)
  refine va_calll (va_runV (As := [.int (xs (i18 + 1)), .int (xs (i18 + 2)), .int (xs (i18 + 3))]) (rest := []) ⟨hx, hb, hml, hown, hts⟩ (M_cell l dC dI cI cJ cZ _ qm ad zr (xs (i18 + 1)) (xs (i18 + 2)) (xs (i18 + 3)) hR.2.1) (cwV 3 hts gL_law_X11_cell rfl rfl rfl (by decide +kernel) ⟨Nat.le_of_ble_eq_true rfl, Nat.le_of_ble_eq_true rfl⟩) (pw_preV (va_recv hKR hJ.2.2.1 (ci := 11) (q0 := 0) rfl rfl) hJ.2.2.1 hKR hJ.2.2.2.1 hN) rfl rfl hl.1 rfl (lv_room (Nat.le_of_ble_eq_true rfl)) dL_law_998 ⟨by omega, by omega⟩) hS (fun q _ h => hFc q h) hFc (fun r2 ur2 t H1 locs1 ht hvm hr2 hB hz1 hk1 hS1 => ?_)
  have hJ := jS_R hJ hFc ht hB hk1
  have hS := hS1
  clear hk1 hB hS1 hFc ht hvm hz1
  generalize H1 = H at hJ hS ⊢
  generalize locs1 = locs at hS ⊢
  refine lv_pop2_2 hx hb dL_law_1001 rfl ?_
  refine lv_goto (tgt := 1196) hx hb dL_law_1002 (by decide) ?_
  refine W.widen (k := cells + 1) (n := slots + 12) (by omega) (by omega) ?_
  exact kk ur1 ur2 H locs ⟨hr1.1.1, hr2.1, (stA_cell hR.2.2.1 hr1.2 hr2.2), (stB_cell hR.2.2.2.1 hr1.2 hr2.2), (stC_cell hR.2.2.2.2.1 hr1.2 hr2.2), (stD_cell hR.2.2.2.2.2 hr1.2 hr2.2)⟩ hr1.1.2 hJ hS
