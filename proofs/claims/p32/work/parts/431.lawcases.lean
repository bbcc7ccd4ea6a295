set_option maxHeartbeats 4000000 in
set_option maxRecDepth 100000 in
theorem law_354 {p : Program} {l : Launch} {e : Env} {s : State} {m : MethodId} {below : List Frame} {meth : Method} {c : Code} {b L : Nat} {xs : Nat → Int32} {dC : Nat → ClassId} {dI : Nat → Nat → Nat} {cA : Nat → ClassId} {qm : Nat} {cI cJ cZ : ClassId} {ad : Nat → Nat} {zc : CS} {zr : RS2} {H : Heap} {locs : List Loc} {ls : Array Slot} {i18 cells slots : Nat} (C0 : lw_At p s m meth c b L xs) (hL : L ≤ 3072) (hN : nst s) (hKC : va_K (dC, dI) vwCl (ctys cA) s) (hKR : va_K (dC, dI) vwCl [(cI, .int), (cJ, .long), (cZ, .boolean)] s) (hi : i18 + 6 ≤ L) (hcl : cells + 1 ≤ room_1.cells) (hsl : slots + 12 ≤ room_1.slots) (hR : jR zc zr) (hJ : jS (dC, dI) cA qm cI cJ cZ ad (fun q : Nat => s.heap.size ≤ q) zc zr H) (hS : va_S (fun q : Nat => s.heap.size ≤ q) s.heap H locs) (hl : lv_has ls 4 [(0, .ref b), (1, .ref (cs_X zc 0 0)), (2, .ref qm), (3, .int (nI i18))]) (kk : ∀ (u : CS) (v : RS2) (H : Heap) (locs : List Loc), jR u v → cs_X u 0 0 = cs_X zc 0 0 → jS (dC, dI) cA qm cI cJ cZ ad (fun q : Nat => s.heap.size ≤ q) u v H → va_S (fun q : Nat => s.heap.size ≤ q) s.heap H locs → W p l e room_1 s m #[Value.ref b] below meth c H locs (cells + 1) (slots + 12) (lw_Z below #[Value.ref b] s) (F0 m 1195 ls [])) : W p l e room_1 s m #[Value.ref b] below meth c H locs cells slots (lw_Z below #[Value.ref b] s) (F0 m 354 ls []) := by
  obtain ⟨hx, hb, hr, hml, hown, hts0, hX, hbl, hlocks, hgv⟩ := id C0
  have hbA : ¬ (fun q : Nat => s.heap.size ≤ q) b := Nat.not_le.mpr hbl
  have hts : ∀ w ∈ wsL_law, w.before #[Value.ref b] s = true := fun w h => hts0 w (wsL_law_in w h)
  refine lv_aload_n hx hb dL_law_354 rfl (lv_at hl 1 rfl) ?_
  refine lv_aload_n hx hb dL_law_355 rfl (lv_at hl 0 rfl) ?_
  refine lv_iload_n hx hb dL_law_356 rfl (lv_at hl 3 rfl) ?_
  refine lv_iconst (v := 1) hx hb dL_law_357 (by decide) ?_
  refine lv_iadd hx hb dL_law_358 ?_
  refine lv_topi (fun w358 ew358 => ?_)
  have ew358 : w358 = nI (i18 + 1) := by rw [ew358]; exact nI_p i18 1
  subst ew358
  refine va_sld hx hb hX hbl hbA hS (vp_in_nI (n := (i18 + 1)) (by omega) (by omega)) dL_law_359 ?_
  rw [nI_clamp (n := (i18 + 1)) (by omega)]
  refine W.eq (g2 := F0 m 360 ls [.int (xs (i18 + 1)), .ref (cs_X zc 0 0)]) rfl ?_
  refine lv_aload_n hx hb dL_law_360 rfl (lv_at hl 0 rfl) ?_
  refine lv_iload_n hx hb dL_law_361 rfl (lv_at hl 3 rfl) ?_
  refine lv_iconst (v := 2) hx hb dL_law_362 (by decide) ?_
  refine lv_iadd hx hb dL_law_363 ?_
  refine lv_topi (fun w363 ew363 => ?_)
  have ew363 : w363 = nI (i18 + 2) := by rw [ew363]; exact nI_p i18 2
  subst ew363
  refine va_sld hx hb hX hbl hbA hS (vp_in_nI (n := (i18 + 2)) (by omega) (by omega)) dL_law_364 ?_
  rw [nI_clamp (n := (i18 + 2)) (by omega)]
  refine W.eq (g2 := F0 m 365 ls [.int (xs (i18 + 2)), .int (xs (i18 + 1)), .ref (cs_X zc 0 0)]) rfl ?_
  refine lv_aload_n hx hb dL_law_365 rfl (lv_at hl 0 rfl) ?_
  refine lv_iload_n hx hb dL_law_366 rfl (lv_at hl 3 rfl) ?_
  refine lv_iconst (v := 3) hx hb dL_law_367 (by decide) ?_
  refine lv_iadd hx hb dL_law_368 ?_
  refine lv_topi (fun w368 ew368 => ?_)
  have ew368 : w368 = nI (i18 + 3) := by rw [ew368]; exact nI_p i18 3
  subst ew368
  refine va_sld hx hb hX hbl hbA hS (vp_in_nI (n := (i18 + 3)) (by omega) (by omega)) dL_law_369 ?_
  rw [nI_clamp (n := (i18 + 3)) (by omega)]
  refine W.eq (g2 := F0 m 370 ls [.int (xs (i18 + 3)), .int (xs (i18 + 2)), .int (xs (i18 + 1)), .ref (cs_X zc 0 0)]) rfl ?_
  refine lv_aload_n hx hb dL_law_370 rfl (lv_at hl 0 rfl) ?_
  refine lv_iload_n hx hb dL_law_371 rfl (lv_at hl 3 rfl) ?_
  refine lv_iconst (v := 4) hx hb dL_law_372 (by decide) ?_
  refine lv_iadd hx hb dL_law_373 ?_
  refine lv_topi (fun w373 ew373 => ?_)
  have ew373 : w373 = nI (i18 + 4) := by rw [ew373]; exact nI_p i18 4
  subst ew373
  refine va_sld hx hb hX hbl hbA hS (vp_in_nI (n := (i18 + 4)) (by omega) (by omega)) dL_law_374 ?_
  rw [nI_clamp (n := (i18 + 4)) (by omega)]
  refine W.eq (g2 := F0 m 375 ls [.int (xs (i18 + 4)), .int (xs (i18 + 3)), .int (xs (i18 + 2)), .int (xs (i18 + 1)), .ref (cs_X zc 0 0)]) rfl ?_
  refine lv_aload_n hx hb dL_law_375 rfl (lv_at hl 0 rfl) ?_
  refine lv_iload_n hx hb dL_law_376 rfl (lv_at hl 3 rfl) ?_
  refine lv_iconst (v := 5) hx hb dL_law_377 (by decide) ?_
  refine lv_iadd hx hb dL_law_378 ?_
  refine lv_topi (fun w378 ew378 => ?_)
  have ew378 : w378 = nI (i18 + 5) := by rw [ew378]; exact nI_p i18 5
  subst ew378
  refine va_sld hx hb hX hbl hbA hS (vp_in_nI (n := (i18 + 5)) (by omega) (by omega)) dL_law_379 ?_
  rw [nI_clamp (n := (i18 + 5)) (by omega)]
  refine W.eq (g2 := F0 m 380 ls [.int (xs (i18 + 5)), .int (xs (i18 + 4)), .int (xs (i18 + 3)), .int (xs (i18 + 2)), .int (xs (i18 + 1)), .ref (cs_X zc 0 0)]) rfl ?_
  have hFc := hJ.freeC hS (fun _ h => h)
  refine va_calli (va_runV (As := [.int (xs (i18 + 1)), .int (xs (i18 + 2)), .int (xs (i18 + 3)), .int (xs (i18 + 4)), .int (xs (i18 + 5))]) (rest := []) ⟨hx, hb, hml, hown, hts⟩ (K_pitch l dC dI cA _ zc (xs (i18 + 1)) (xs (i18 + 2)) (xs (i18 + 3)) (xs (i18 + 4)) (xs (i18 + 5)) hR.1) (cwV 5 hts gL_law_X10_pitch rfl rfl rfl (by decide +kernel) ⟨Nat.le_of_ble_eq_true rfl, Nat.le_of_ble_eq_true rfl⟩) (kw_preV (k_recv hKC hJ.1) hJ.1 hKC hJ.2.1.1 hN) rfl rfl hl.1 rfl (lv_room (Nat.le_of_ble_eq_true rfl)) dL_law_380 ⟨by omega, by omega⟩) hS (fun q _ h => hFc q h) hFc (fun r1 ur1 t H1 locs1 ht hvm hr1 hB hz1 hk1 hS1 => ?_)
  have hJ := jS_C hJ hFc ht hB hk1
  have hS := hS1
  clear hk1 hB hS1 hFc ht hvm hz1
  generalize H1 = H at hJ hS ⊢
  generalize locs1 = locs at hS ⊢
  refine lv_pop hx hb dL_law_383 rfl ?_
  refine lv_aload_n hx hb dL_law_384 rfl (lv_at hl 2 rfl) ?_
  refine lv_aload_n hx hb dL_law_385 rfl (lv_at hl 0 rfl) ?_
  refine lv_iload_n hx hb dL_law_386 rfl (lv_at hl 3 rfl) ?_
  refine lv_iconst (v := 1) hx hb dL_law_387 (by decide) ?_
  refine lv_iadd hx hb dL_law_388 ?_
  refine lv_topi (fun w388 ew388 => ?_)
  have ew388 : w388 = nI (i18 + 1) := by rw [ew388]; exact nI_p i18 1
  subst ew388
  refine va_sld hx hb hX hbl hbA hS (vp_in_nI (n := (i18 + 1)) (by omega) (by omega)) dL_law_389 ?_
  rw [nI_clamp (n := (i18 + 1)) (by omega)]
  refine W.eq (g2 := F0 m 390 ls [.int (xs (i18 + 1)), .ref qm]) rfl ?_
  refine lv_aload_n hx hb dL_law_390 rfl (lv_at hl 0 rfl) ?_
  refine lv_iload_n hx hb dL_law_391 rfl (lv_at hl 3 rfl) ?_
  refine lv_iconst (v := 2) hx hb dL_law_392 (by decide) ?_
  refine lv_iadd hx hb dL_law_393 ?_
  refine lv_topi (fun w393 ew393 => ?_)
  have ew393 : w393 = nI (i18 + 2) := by rw [ew393]; exact nI_p i18 2
  subst ew393
  refine va_sld hx hb hX hbl hbA hS (vp_in_nI (n := (i18 + 2)) (by omega) (by omega)) dL_law_394 ?_
  rw [nI_clamp (n := (i18 + 2)) (by omega)]
  refine W.eq (g2 := F0 m 395 ls [.int (xs (i18 + 2)), .int (xs (i18 + 1)), .ref qm]) rfl ?_
  refine lv_aload_n hx hb dL_law_395 rfl (lv_at hl 0 rfl) ?_
  refine lv_iload_n hx hb dL_law_396 rfl (lv_at hl 3 rfl) ?_
  refine lv_iconst (v := 3) hx hb dL_law_397 (by decide) ?_
  refine lv_iadd hx hb dL_law_398 ?_
  refine lv_topi (fun w398 ew398 => ?_)
  have ew398 : w398 = nI (i18 + 3) := by rw [ew398]; exact nI_p i18 3
  subst ew398
  refine va_sld hx hb hX hbl hbA hS (vp_in_nI (n := (i18 + 3)) (by omega) (by omega)) dL_law_399 ?_
  rw [nI_clamp (n := (i18 + 3)) (by omega)]
  refine W.eq (g2 := F0 m 400 ls [.int (xs (i18 + 3)), .int (xs (i18 + 2)), .int (xs (i18 + 1)), .ref qm]) rfl ?_
  refine lv_aload_n hx hb dL_law_400 rfl (lv_at hl 0 rfl) ?_
  refine lv_iload_n hx hb dL_law_401 rfl (lv_at hl 3 rfl) ?_
  refine lv_iconst (v := 4) hx hb dL_law_402 (by decide) ?_
  refine lv_iadd hx hb dL_law_403 ?_
  refine lv_topi (fun w403 ew403 => ?_)
  have ew403 : w403 = nI (i18 + 4) := by rw [ew403]; exact nI_p i18 4
  subst ew403
  refine va_sld hx hb hX hbl hbA hS (vp_in_nI (n := (i18 + 4)) (by omega) (by omega)) dL_law_404 ?_
  rw [nI_clamp (n := (i18 + 4)) (by omega)]
  refine W.eq (g2 := F0 m 405 ls [.int (xs (i18 + 4)), .int (xs (i18 + 3)), .int (xs (i18 + 2)), .int (xs (i18 + 1)), .ref qm]) rfl ?_
  refine lv_aload_n hx hb dL_law_405 rfl (lv_at hl 0 rfl) ?_
  refine lv_iload_n hx hb dL_law_406 rfl (lv_at hl 3 rfl) ?_
  refine lv_iconst (v := 5) hx hb dL_law_407 (by decide) ?_
  refine lv_iadd hx hb dL_law_408 ?_
  refine lv_topi (fun w408 ew408 => ?_)
  have ew408 : w408 = nI (i18 + 5) := by rw [ew408]; exact nI_p i18 5
  subst ew408
  refine va_sld hx hb hX hbl hbA hS (vp_in_nI (n := (i18 + 5)) (by omega) (by omega)) dL_law_409 ?_
  rw [nI_clamp (n := (i18 + 5)) (by omega)]
  refine W.eq (g2 := F0 m 410 ls [.int (xs (i18 + 5)), .int (xs (i18 + 4)), .int (xs (i18 + 3)), .int (xs (i18 + 2)), .int (xs (i18 + 1)), .ref qm]) rfl ?_
  have hFc := hJ.freeR hS (fun _ h => h)
  refine va_calli (va_runV (As := [.int (xs (i18 + 1)), .int (xs (i18 + 2)), .int (xs (i18 + 3)), .int (xs (i18 + 4)), .int (xs (i18 + 5))]) (rest := []) ⟨hx, hb, hml, hown, hts⟩ (M_pitch l dC dI cI cJ cZ _ qm ad zr (xs (i18 + 1)) (xs (i18 + 2)) (xs (i18 + 3)) (xs (i18 + 4)) (xs (i18 + 5)) hR.2.1) (cwV 5 hts gL_law_X11_pitch rfl rfl rfl (by decide +kernel) ⟨Nat.le_of_ble_eq_true rfl, Nat.le_of_ble_eq_true rfl⟩) (pw_preV (va_recv hKR hJ.2.2.1 (ci := 11) (q0 := 0) rfl rfl) hJ.2.2.1 hKR hJ.2.2.2.1 hN) rfl rfl hl.1 rfl (lv_room (Nat.le_of_ble_eq_true rfl)) dL_law_410 ⟨by omega, by omega⟩) hS (fun q _ h => hFc q h) hFc (fun r2 ur2 t H1 locs1 ht hvm hr2 hB hz1 hk1 hS1 => ?_)
  have hJ := jS_R hJ hFc ht hB hk1
  have hS := hS1
  clear hk1 hB hS1 hFc ht hvm hz1
  generalize H1 = H at hJ hS ⊢
  generalize locs1 = locs at hS ⊢
  refine lv_pop hx hb dL_law_413 rfl ?_
  refine lv_goto (tgt := 1195) hx hb dL_law_414 (by decide) ?_
  refine W.widen (k := cells + 1) (n := slots + 12) (by omega) (by omega) ?_
  exact kk ur1 ur2 H locs ⟨hr1.1.1, hr2.1, (stA_pitch hR.2.2.1 hr1.2 hr2.2), (stB_pitch hR.2.2.2.1 hr1.2 hr2.2), (stC_pitch hR.2.2.2.2.1 hr1.2 hr2.2), (stD_pitch hR.1 hR.2.1 hR.2.2.2.2.2 hr1.2 hr2.2).1⟩ hr1.1.2 hJ hS
set_option maxHeartbeats 4000000 in
set_option maxRecDepth 100000 in
theorem law_417 {p : Program} {l : Launch} {e : Env} {s : State} {m : MethodId} {below : List Frame} {meth : Method} {c : Code} {b L : Nat} {xs : Nat → Int32} {dC : Nat → ClassId} {dI : Nat → Nat → Nat} {cA : Nat → ClassId} {qm : Nat} {cI cJ cZ : ClassId} {ad : Nat → Nat} {zc : CS} {zr : RS2} {H : Heap} {locs : List Loc} {ls : Array Slot} {i18 cells slots : Nat} (C0 : lw_At p s m meth c b L xs) (hL : L ≤ 3072) (hN : nst s) (hKC : va_K (dC, dI) vwCl (ctys cA) s) (hKR : va_K (dC, dI) vwCl [(cI, .int), (cJ, .long), (cZ, .boolean)] s) (hi : i18 + 6 ≤ L) (hcl : cells + 1 ≤ room_1.cells) (hsl : slots + 12 ≤ room_1.slots) (hR : jR zc zr) (hJ : jS (dC, dI) cA qm cI cJ cZ ad (fun q : Nat => s.heap.size ≤ q) zc zr H) (hS : va_S (fun q : Nat => s.heap.size ≤ q) s.heap H locs) (hl : lv_has ls 4 [(0, .ref b), (1, .ref (cs_X zc 0 0)), (2, .ref qm), (3, .int (nI i18))]) (kk : ∀ (u : CS) (v : RS2) (H : Heap) (locs : List Loc), jR u v → cs_X u 0 0 = cs_X zc 0 0 → jS (dC, dI) cA qm cI cJ cZ ad (fun q : Nat => s.heap.size ≤ q) u v H → va_S (fun q : Nat => s.heap.size ≤ q) s.heap H locs → W p l e room_1 s m #[Value.ref b] below meth c H locs (cells + 1) (slots + 12) (lw_Z below #[Value.ref b] s) (F0 m 1195 ls [])) : W p l e room_1 s m #[Value.ref b] below meth c H locs cells slots (lw_Z below #[Value.ref b] s) (F0 m 417 ls []) := by
  obtain ⟨hx, hb, hr, hml, hown, hts0, hX, hbl, hlocks, hgv⟩ := id C0
  have hbA : ¬ (fun q : Nat => s.heap.size ≤ q) b := Nat.not_le.mpr hbl
  have hts : ∀ w ∈ wsL_law, w.before #[Value.ref b] s = true := fun w h => hts0 w (wsL_law_in w h)
  refine lv_aload_n hx hb dL_law_417 rfl (lv_at hl 1 rfl) ?_
  refine lv_aload_n hx hb dL_law_418 rfl (lv_at hl 0 rfl) ?_
  refine lv_iload_n hx hb dL_law_419 rfl (lv_at hl 3 rfl) ?_
  refine lv_iconst (v := 1) hx hb dL_law_420 (by decide) ?_
  refine lv_iadd hx hb dL_law_421 ?_
  refine lv_topi (fun w421 ew421 => ?_)
  have ew421 : w421 = nI (i18 + 1) := by rw [ew421]; exact nI_p i18 1
  subst ew421
  refine va_sld hx hb hX hbl hbA hS (vp_in_nI (n := (i18 + 1)) (by omega) (by omega)) dL_law_422 ?_
  rw [nI_clamp (n := (i18 + 1)) (by omega)]
  refine W.eq (g2 := F0 m 423 ls [.int (xs (i18 + 1)), .ref (cs_X zc 0 0)]) rfl ?_
  refine lv_aload_n hx hb dL_law_423 rfl (lv_at hl 0 rfl) ?_
  refine lv_iload_n hx hb dL_law_424 rfl (lv_at hl 3 rfl) ?_
  refine lv_iconst (v := 2) hx hb dL_law_425 (by decide) ?_
  refine lv_iadd hx hb dL_law_426 ?_
  refine lv_topi (fun w426 ew426 => ?_)
  have ew426 : w426 = nI (i18 + 2) := by rw [ew426]; exact nI_p i18 2
  subst ew426
  refine va_sld hx hb hX hbl hbA hS (vp_in_nI (n := (i18 + 2)) (by omega) (by omega)) dL_law_427 ?_
  rw [nI_clamp (n := (i18 + 2)) (by omega)]
  refine W.eq (g2 := F0 m 428 ls [.int (xs (i18 + 2)), .int (xs (i18 + 1)), .ref (cs_X zc 0 0)]) rfl ?_
  have hFc := hJ.freeC hS (fun _ h => h)
  refine va_calll (va_runV (As := [.int (xs (i18 + 1)), .int (xs (i18 + 2))]) (rest := []) ⟨hx, hb, hml, hown, hts⟩ (K_foretold l dC dI cA _ zc (xs (i18 + 1)) (xs (i18 + 2)) hR.1) (cwV 2 hts gL_law_X10_foretold rfl rfl rfl (by decide +kernel) ⟨Nat.le_of_ble_eq_true rfl, Nat.le_of_ble_eq_true rfl⟩) (kw_preV (k_recv hKC hJ.1) hJ.1 hKC hJ.2.1.1 hN) rfl rfl hl.1 rfl (lv_room (Nat.le_of_ble_eq_true rfl)) dL_law_428 ⟨by omega, by omega⟩) hS (fun q _ h => hFc q h) hFc (fun r1 ur1 t H1 locs1 ht hvm hr1 hB hz1 hk1 hS1 => ?_)
  have hJ := jS_C hJ hFc ht hB hk1
  have hS := hS1
  clear hk1 hB hS1 hFc ht hvm hz1
  generalize H1 = H at hJ hS ⊢
  generalize locs1 = locs at hS ⊢
  refine lv_pop2_2 hx hb dL_law_431 rfl ?_
  refine lv_aload_n hx hb dL_law_432 rfl (lv_at hl 2 rfl) ?_
  refine lv_aload_n hx hb dL_law_433 rfl (lv_at hl 0 rfl) ?_
  refine lv_iload_n hx hb dL_law_434 rfl (lv_at hl 3 rfl) ?_
  refine lv_iconst (v := 1) hx hb dL_law_435 (by decide) ?_
  refine lv_iadd hx hb dL_law_436 ?_
  refine lv_topi (fun w436 ew436 => ?_)
  have ew436 : w436 = nI (i18 + 1) := by rw [ew436]; exact nI_p i18 1
  subst ew436
  refine va_sld hx hb hX hbl hbA hS (vp_in_nI (n := (i18 + 1)) (by omega) (by omega)) dL_law_437 ?_
  rw [nI_clamp (n := (i18 + 1)) (by omega)]
  refine W.eq (g2 := F0 m 438 ls [.int (xs (i18 + 1)), .ref qm]) rfl ?_
  refine lv_aload_n hx hb dL_law_438 rfl (lv_at hl 0 rfl) ?_
  refine lv_iload_n hx hb dL_law_439 rfl (lv_at hl 3 rfl) ?_
  refine lv_iconst (v := 2) hx hb dL_law_440 (by decide) ?_
  refine lv_iadd hx hb dL_law_441 ?_
  refine lv_topi (fun w441 ew441 => ?_)
  have ew441 : w441 = nI (i18 + 2) := by rw [ew441]; exact nI_p i18 2
  subst ew441
  refine va_sld hx hb hX hbl hbA hS (vp_in_nI (n := (i18 + 2)) (by omega) (by omega)) dL_law_442 ?_
  rw [nI_clamp (n := (i18 + 2)) (by omega)]
  refine W.eq (g2 := F0 m 443 ls [.int (xs (i18 + 2)), .int (xs (i18 + 1)), .ref qm]) rfl ?_
  have hFc := hJ.freeR hS (fun _ h => h)
  refine va_calll (va_runV (As := [.int (xs (i18 + 1)), .int (xs (i18 + 2))]) (rest := []) ⟨hx, hb, hml, hown, hts⟩ (M_foretold l dC dI cI cJ cZ _ qm ad zr (xs (i18 + 1)) (xs (i18 + 2)) hR.2.1) (cwV 2 hts gL_law_X11_foretold rfl rfl rfl (by decide +kernel) ⟨Nat.le_of_ble_eq_true rfl, Nat.le_of_ble_eq_true rfl⟩) (pw_preV (va_recv hKR hJ.2.2.1 (ci := 11) (q0 := 0) rfl rfl) hJ.2.2.1 hKR hJ.2.2.2.1 hN) rfl rfl hl.1 rfl (lv_room (Nat.le_of_ble_eq_true rfl)) dL_law_443 ⟨by omega, by omega⟩) hS (fun q _ h => hFc q h) hFc (fun r2 ur2 t H1 locs1 ht hvm hr2 hB hz1 hk1 hS1 => ?_)
  have hJ := jS_R hJ hFc ht hB hk1
  have hS := hS1
  clear hk1 hB hS1 hFc ht hvm hz1
  generalize H1 = H at hJ hS ⊢
  generalize locs1 = locs at hS ⊢
  refine lv_pop2_2 hx hb dL_law_446 rfl ?_
  refine lv_goto (tgt := 1195) hx hb dL_law_447 (by decide) ?_
  refine W.widen (k := cells + 1) (n := slots + 12) (by omega) (by omega) ?_
  exact kk ur1 ur2 H locs ⟨hr1.1.1, hr2.1, (stA_foretold hR.2.2.1 hr1.2 hr2.2), (stB_foretold hR.2.2.2.1 hr1.2 hr2.2), (stC_foretold hR.2.2.2.2.1 hr1.2 hr2.2), (stD_foretold hR.2.2.2.2.2 hr1.2 hr2.2)⟩ hr1.1.2 hJ hS
set_option maxHeartbeats 4000000 in
set_option maxRecDepth 100000 in
theorem law_450 {p : Program} {l : Launch} {e : Env} {s : State} {m : MethodId} {below : List Frame} {meth : Method} {c : Code} {b L : Nat} {xs : Nat → Int32} {dC : Nat → ClassId} {dI : Nat → Nat → Nat} {cA : Nat → ClassId} {qm : Nat} {cI cJ cZ : ClassId} {ad : Nat → Nat} {zc : CS} {zr : RS2} {H : Heap} {locs : List Loc} {ls : Array Slot} {i18 cells slots : Nat} (C0 : lw_At p s m meth c b L xs) (hL : L ≤ 3072) (hN : nst s) (hKC : va_K (dC, dI) vwCl (ctys cA) s) (hKR : va_K (dC, dI) vwCl [(cI, .int), (cJ, .long), (cZ, .boolean)] s) (hi : i18 + 6 ≤ L) (hcl : cells + 1 ≤ room_1.cells) (hsl : slots + 12 ≤ room_1.slots) (hR : jR zc zr) (hJ : jS (dC, dI) cA qm cI cJ cZ ad (fun q : Nat => s.heap.size ≤ q) zc zr H) (hS : va_S (fun q : Nat => s.heap.size ≤ q) s.heap H locs) (hl : lv_has ls 4 [(0, .ref b), (1, .ref (cs_X zc 0 0)), (2, .ref qm), (3, .int (nI i18))]) (kk : ∀ (u : CS) (v : RS2) (H : Heap) (locs : List Loc), jR u v → cs_X u 0 0 = cs_X zc 0 0 → jS (dC, dI) cA qm cI cJ cZ ad (fun q : Nat => s.heap.size ≤ q) u v H → va_S (fun q : Nat => s.heap.size ≤ q) s.heap H locs → W p l e room_1 s m #[Value.ref b] below meth c H locs (cells + 1) (slots + 12) (lw_Z below #[Value.ref b] s) (F0 m 1195 ls [])) : W p l e room_1 s m #[Value.ref b] below meth c H locs cells slots (lw_Z below #[Value.ref b] s) (F0 m 450 ls []) := by
  obtain ⟨hx, hb, hr, hml, hown, hts0, hX, hbl, hlocks, hgv⟩ := id C0
  have hbA : ¬ (fun q : Nat => s.heap.size ≤ q) b := Nat.not_le.mpr hbl
  have hts : ∀ w ∈ wsL_law, w.before #[Value.ref b] s = true := fun w h => hts0 w (wsL_law_in w h)
  refine lv_aload_n hx hb dL_law_450 rfl (lv_at hl 1 rfl) ?_
  refine lv_aload_n hx hb dL_law_451 rfl (lv_at hl 0 rfl) ?_
  refine lv_iload_n hx hb dL_law_452 rfl (lv_at hl 3 rfl) ?_
  refine lv_iconst (v := 1) hx hb dL_law_453 (by decide) ?_
  refine lv_iadd hx hb dL_law_454 ?_
  refine lv_topi (fun w454 ew454 => ?_)
  have ew454 : w454 = nI (i18 + 1) := by rw [ew454]; exact nI_p i18 1
  subst ew454
  refine va_sld hx hb hX hbl hbA hS (vp_in_nI (n := (i18 + 1)) (by omega) (by omega)) dL_law_455 ?_
  rw [nI_clamp (n := (i18 + 1)) (by omega)]
  refine W.eq (g2 := F0 m 456 ls [.int (xs (i18 + 1)), .ref (cs_X zc 0 0)]) rfl ?_
  have hFc := hJ.freeC hS (fun _ h => h)
  refine va_calli (va_runV (As := [.int (xs (i18 + 1))]) (rest := []) ⟨hx, hb, hml, hown, hts⟩ (K_gang l dC dI cA _ zc (xs (i18 + 1)) hR.1) (cwV 1 hts gL_law_X10_gang rfl rfl rfl (by decide +kernel) ⟨Nat.le_of_ble_eq_true rfl, Nat.le_of_ble_eq_true rfl⟩) (kw_preV (k_recv hKC hJ.1) hJ.1 hKC hJ.2.1.1 hN) rfl rfl hl.1 rfl (lv_room (Nat.le_of_ble_eq_true rfl)) dL_law_456 ⟨by omega, by omega⟩) hS (fun q _ h => hFc q h) hFc (fun r1 ur1 t H1 locs1 ht hvm hr1 hB hz1 hk1 hS1 => ?_)
  have hJ := jS_C hJ hFc ht hB hk1
  have hS := hS1
  clear hk1 hB hS1 hFc ht hvm hz1
  generalize H1 = H at hJ hS ⊢
  generalize locs1 = locs at hS ⊢
  refine lv_pop hx hb dL_law_459 rfl ?_
  refine lv_aload_n hx hb dL_law_460 rfl (lv_at hl 2 rfl) ?_
  refine lv_aload_n hx hb dL_law_461 rfl (lv_at hl 0 rfl) ?_
  refine lv_iload_n hx hb dL_law_462 rfl (lv_at hl 3 rfl) ?_
  refine lv_iconst (v := 1) hx hb dL_law_463 (by decide) ?_
  refine lv_iadd hx hb dL_law_464 ?_
  refine lv_topi (fun w464 ew464 => ?_)
  have ew464 : w464 = nI (i18 + 1) := by rw [ew464]; exact nI_p i18 1
  subst ew464
  refine va_sld hx hb hX hbl hbA hS (vp_in_nI (n := (i18 + 1)) (by omega) (by omega)) dL_law_465 ?_
  rw [nI_clamp (n := (i18 + 1)) (by omega)]
  refine W.eq (g2 := F0 m 466 ls [.int (xs (i18 + 1)), .ref qm]) rfl ?_
  have hFc := hJ.freeR hS (fun _ h => h)
  refine va_calli (va_runV (As := [.int (xs (i18 + 1))]) (rest := []) ⟨hx, hb, hml, hown, hts⟩ (M_gang l dC dI cI cJ cZ _ qm ad zr (xs (i18 + 1)) hR.2.1) (cwV 1 hts gL_law_X11_gang rfl rfl rfl (by decide +kernel) ⟨Nat.le_of_ble_eq_true rfl, Nat.le_of_ble_eq_true rfl⟩) (pw_preV (va_recv hKR hJ.2.2.1 (ci := 11) (q0 := 0) rfl rfl) hJ.2.2.1 hKR hJ.2.2.2.1 hN) rfl rfl hl.1 rfl (lv_room (Nat.le_of_ble_eq_true rfl)) dL_law_466 ⟨by omega, by omega⟩) hS (fun q _ h => hFc q h) hFc (fun r2 ur2 t H1 locs1 ht hvm hr2 hB hz1 hk1 hS1 => ?_)
  have hJ := jS_R hJ hFc ht hB hk1
  have hS := hS1
  clear hk1 hB hS1 hFc ht hvm hz1
  generalize H1 = H at hJ hS ⊢
  generalize locs1 = locs at hS ⊢
  refine lv_pop hx hb dL_law_469 rfl ?_
  refine lv_goto (tgt := 1195) hx hb dL_law_470 (by decide) ?_
  refine W.widen (k := cells + 1) (n := slots + 12) (by omega) (by omega) ?_
  exact kk ur1 ur2 H locs ⟨hr1.1.1, hr2.1, (stA_gang hR.1 hR.2.2.1 hr1.2 hr2.2).1, (stB_gang hR.2.2.2.1 hr1.2 hr2.2), (stC_gang hR.2.2.2.2.1 hr1.2 hr2.2), (stD_gang hR.1 hR.2.1 hR.2.2.2.2.2 hr1.2 hr2.2)⟩ hr1.1.2 hJ hS
set_option maxHeartbeats 4000000 in
set_option maxRecDepth 100000 in
theorem law_473 {p : Program} {l : Launch} {e : Env} {s : State} {m : MethodId} {below : List Frame} {meth : Method} {c : Code} {b L : Nat} {xs : Nat → Int32} {dC : Nat → ClassId} {dI : Nat → Nat → Nat} {cA : Nat → ClassId} {qm : Nat} {cI cJ cZ : ClassId} {ad : Nat → Nat} {zc : CS} {zr : RS2} {H : Heap} {locs : List Loc} {ls : Array Slot} {i18 cells slots : Nat} (C0 : lw_At p s m meth c b L xs) (hL : L ≤ 3072) (hN : nst s) (hKC : va_K (dC, dI) vwCl (ctys cA) s) (hKR : va_K (dC, dI) vwCl [(cI, .int), (cJ, .long), (cZ, .boolean)] s) (hi : i18 + 6 ≤ L) (hcl : cells + 1 ≤ room_1.cells) (hsl : slots + 12 ≤ room_1.slots) (hR : jR zc zr) (hJ : jS (dC, dI) cA qm cI cJ cZ ad (fun q : Nat => s.heap.size ≤ q) zc zr H) (hS : va_S (fun q : Nat => s.heap.size ≤ q) s.heap H locs) (hl : lv_has ls 4 [(0, .ref b), (1, .ref (cs_X zc 0 0)), (2, .ref qm), (3, .int (nI i18))]) (kk : ∀ (u : CS) (v : RS2) (H : Heap) (locs : List Loc), jR u v → cs_X u 0 0 = cs_X zc 0 0 → jS (dC, dI) cA qm cI cJ cZ ad (fun q : Nat => s.heap.size ≤ q) u v H → va_S (fun q : Nat => s.heap.size ≤ q) s.heap H locs → W p l e room_1 s m #[Value.ref b] below meth c H locs (cells + 1) (slots + 12) (lw_Z below #[Value.ref b] s) (F0 m 1195 ls [])) : W p l e room_1 s m #[Value.ref b] below meth c H locs cells slots (lw_Z below #[Value.ref b] s) (F0 m 473 ls []) := by
  obtain ⟨hx, hb, hr, hml, hown, hts0, hX, hbl, hlocks, hgv⟩ := id C0
  have hbA : ¬ (fun q : Nat => s.heap.size ≤ q) b := Nat.not_le.mpr hbl
  have hts : ∀ w ∈ wsL_law, w.before #[Value.ref b] s = true := fun w h => hts0 w (wsL_law_in w h)
  refine lv_aload_n hx hb dL_law_473 rfl (lv_at hl 1 rfl) ?_
  refine lv_aload_n hx hb dL_law_474 rfl (lv_at hl 0 rfl) ?_
  refine lv_iload_n hx hb dL_law_475 rfl (lv_at hl 3 rfl) ?_
  refine lv_iconst (v := 1) hx hb dL_law_476 (by decide) ?_
  refine lv_iadd hx hb dL_law_477 ?_
  refine lv_topi (fun w477 ew477 => ?_)
  have ew477 : w477 = nI (i18 + 1) := by rw [ew477]; exact nI_p i18 1
  subst ew477
  refine va_sld hx hb hX hbl hbA hS (vp_in_nI (n := (i18 + 1)) (by omega) (by omega)) dL_law_478 ?_
  rw [nI_clamp (n := (i18 + 1)) (by omega)]
  refine W.eq (g2 := F0 m 479 ls [.int (xs (i18 + 1)), .ref (cs_X zc 0 0)]) rfl ?_
  refine lv_aload_n hx hb dL_law_479 rfl (lv_at hl 0 rfl) ?_
  refine lv_iload_n hx hb dL_law_480 rfl (lv_at hl 3 rfl) ?_
  refine lv_iconst (v := 2) hx hb dL_law_481 (by decide) ?_
  refine lv_iadd hx hb dL_law_482 ?_
  refine lv_topi (fun w482 ew482 => ?_)
  have ew482 : w482 = nI (i18 + 2) := by rw [ew482]; exact nI_p i18 2
  subst ew482
  refine va_sld hx hb hX hbl hbA hS (vp_in_nI (n := (i18 + 2)) (by omega) (by omega)) dL_law_483 ?_
  rw [nI_clamp (n := (i18 + 2)) (by omega)]
  refine W.eq (g2 := F0 m 484 ls [.int (xs (i18 + 2)), .int (xs (i18 + 1)), .ref (cs_X zc 0 0)]) rfl ?_
  have hFc := hJ.freeC hS (fun _ h => h)
  refine va_calli (va_runV (As := [.int (xs (i18 + 1)), .int (xs (i18 + 2))]) (rest := []) ⟨hx, hb, hml, hown, hts⟩ (K_auction l dC dI cA _ zc (xs (i18 + 1)) (xs (i18 + 2)) hR.1) (cwV 2 hts gL_law_X10_auction rfl rfl rfl (by decide +kernel) ⟨Nat.le_of_ble_eq_true rfl, Nat.le_of_ble_eq_true rfl⟩) (kw_preV (k_recv hKC hJ.1) hJ.1 hKC hJ.2.1.1 hN) rfl rfl hl.1 rfl (lv_room (Nat.le_of_ble_eq_true rfl)) dL_law_484 ⟨by omega, by omega⟩) hS (fun q _ h => hFc q h) hFc (fun r1 ur1 t H1 locs1 ht hvm hr1 hB hz1 hk1 hS1 => ?_)
  have hJ := jS_C hJ hFc ht hB hk1
  have hS := hS1
  clear hk1 hB hS1 hFc ht hvm hz1
  generalize H1 = H at hJ hS ⊢
  generalize locs1 = locs at hS ⊢
  refine lv_pop hx hb dL_law_487 rfl ?_
  refine lv_aload_n hx hb dL_law_488 rfl (lv_at hl 2 rfl) ?_
  refine lv_aload_n hx hb dL_law_489 rfl (lv_at hl 0 rfl) ?_
  refine lv_iload_n hx hb dL_law_490 rfl (lv_at hl 3 rfl) ?_
  refine lv_iconst (v := 1) hx hb dL_law_491 (by decide) ?_
  refine lv_iadd hx hb dL_law_492 ?_
  refine lv_topi (fun w492 ew492 => ?_)
  have ew492 : w492 = nI (i18 + 1) := by rw [ew492]; exact nI_p i18 1
  subst ew492
  refine va_sld hx hb hX hbl hbA hS (vp_in_nI (n := (i18 + 1)) (by omega) (by omega)) dL_law_493 ?_
  rw [nI_clamp (n := (i18 + 1)) (by omega)]
  refine W.eq (g2 := F0 m 494 ls [.int (xs (i18 + 1)), .ref qm]) rfl ?_
  refine lv_aload_n hx hb dL_law_494 rfl (lv_at hl 0 rfl) ?_
  refine lv_iload_n hx hb dL_law_495 rfl (lv_at hl 3 rfl) ?_
  refine lv_iconst (v := 2) hx hb dL_law_496 (by decide) ?_
  refine lv_iadd hx hb dL_law_497 ?_
  refine lv_topi (fun w497 ew497 => ?_)
  have ew497 : w497 = nI (i18 + 2) := by rw [ew497]; exact nI_p i18 2
  subst ew497
  refine va_sld hx hb hX hbl hbA hS (vp_in_nI (n := (i18 + 2)) (by omega) (by omega)) dL_law_498 ?_
  rw [nI_clamp (n := (i18 + 2)) (by omega)]
  refine W.eq (g2 := F0 m 499 ls [.int (xs (i18 + 2)), .int (xs (i18 + 1)), .ref qm]) rfl ?_
  have hFc := hJ.freeR hS (fun _ h => h)
  refine va_calli (va_runV (As := [.int (xs (i18 + 1)), .int (xs (i18 + 2))]) (rest := []) ⟨hx, hb, hml, hown, hts⟩ (M_auction l dC dI cI cJ cZ _ qm ad zr (xs (i18 + 1)) (xs (i18 + 2)) hR.2.1) (cwV 2 hts gL_law_X11_auction rfl rfl rfl (by decide +kernel) ⟨Nat.le_of_ble_eq_true rfl, Nat.le_of_ble_eq_true rfl⟩) (pw_preV (va_recv hKR hJ.2.2.1 (ci := 11) (q0 := 0) rfl rfl) hJ.2.2.1 hKR hJ.2.2.2.1 hN) rfl rfl hl.1 rfl (lv_room (Nat.le_of_ble_eq_true rfl)) dL_law_499 ⟨by omega, by omega⟩) hS (fun q _ h => hFc q h) hFc (fun r2 ur2 t H1 locs1 ht hvm hr2 hB hz1 hk1 hS1 => ?_)
  have hJ := jS_R hJ hFc ht hB hk1
  have hS := hS1
  clear hk1 hB hS1 hFc ht hvm hz1
  generalize H1 = H at hJ hS ⊢
  generalize locs1 = locs at hS ⊢
  refine lv_pop hx hb dL_law_502 rfl ?_
  refine lv_goto (tgt := 1195) hx hb dL_law_503 (by decide) ?_
  refine W.widen (k := cells + 1) (n := slots + 12) (by omega) (by omega) ?_
  exact kk ur1 ur2 H locs ⟨hr1.1.1, hr2.1, (stA_auction hR.2.2.1 hr1.2 hr2.2), (stB_auction hR.2.2.2.1 hr1.2 hr2.2), (stC_auction hR.2.2.2.2.1 hr1.2 hr2.2), (stD_auction hR.1 hR.2.2.2.2.2 hr1.2 hr2.2).1⟩ hr1.1.2 hJ hS
