set_option maxHeartbeats 4000000 in
set_option maxRecDepth 100000 in
theorem law_628 {p : Program} {l : Launch} {e : Env} {s : State} {m : MethodId} {below : List Frame} {meth : Method} {c : Code} {b L : Nat} {xs : Nat → Int32} {dC : Nat → ClassId} {dI : Nat → Nat → Nat} {cA : Nat → ClassId} {qm : Nat} {cI cJ cZ : ClassId} {ad : Nat → Nat} {zc : CS} {zr : RS2} {H : Heap} {locs : List Loc} {ls : Array Slot} {i18 cells slots : Nat} (C0 : lw_At p s m meth c b L xs) (hL : L ≤ 3072) (hN : nst s) (hKC : va_K (dC, dI) vwCl (ctys cA) s) (hKR : va_K (dC, dI) vwCl [(cI, .int), (cJ, .long), (cZ, .boolean)] s) (hi : i18 + 6 ≤ L) (hcl : cells + 1 ≤ room_1.cells) (hsl : slots + 12 ≤ room_1.slots) (hR : jR zc zr) (hJ : jS (dC, dI) cA qm cI cJ cZ ad (fun q : Nat => s.heap.size ≤ q) zc zr H) (hS : va_S (fun q : Nat => s.heap.size ≤ q) s.heap H locs) (hl : lv_has ls 4 [(0, .ref b), (1, .ref (cs_X zc 0 0)), (2, .ref qm), (3, .int (nI i18))]) (kk : ∀ (u : CS) (v : RS2) (H : Heap) (locs : List Loc), jR u v → cs_X u 0 0 = cs_X zc 0 0 → jS (dC, dI) cA qm cI cJ cZ ad (fun q : Nat => s.heap.size ≤ q) u v H → va_S (fun q : Nat => s.heap.size ≤ q) s.heap H locs → W p l e room_1 s m #[Value.ref b] below meth c H locs (cells + 1) (slots + 12) (lw_Z below #[Value.ref b] s) (F0 m 1195 ls [])) : W p l e room_1 s m #[Value.ref b] below meth c H locs cells slots (lw_Z below #[Value.ref b] s) (F0 m 628 ls []) := by
  obtain ⟨hx, hb, hr, hml, hown, hts0, hX, hbl, hlocks, hgv⟩ := id C0
  have hbA : ¬ (fun q : Nat => s.heap.size ≤ q) b := Nat.not_le.mpr hbl
  have hts : ∀ w ∈ wsL_law, w.before #[Value.ref b] s = true := fun w h => hts0 w (wsL_law_in w h)
  refine lv_aload_n hx hb dL_law_628 rfl (lv_at hl 1 rfl) ?_
  refine lv_aload_n hx hb dL_law_629 rfl (lv_at hl 0 rfl) ?_
  refine lv_iload_n hx hb dL_law_630 rfl (lv_at hl 3 rfl) ?_
  refine lv_iconst (v := 1) hx hb dL_law_631 (by decide) ?_
  refine lv_iadd hx hb dL_law_632 ?_
  refine lv_topi (fun w632 ew632 => ?_)
  have ew632 : w632 = nI (i18 + 1) := by rw [ew632]; exact nI_p i18 1
  subst ew632
  refine va_sld hx hb hX hbl hbA hS (vp_in_nI (n := (i18 + 1)) (by omega) (by omega)) dL_law_633 ?_
  rw [nI_clamp (n := (i18 + 1)) (by omega)]
  refine W.eq (g2 := F0 m 634 ls [.int (xs (i18 + 1)), .ref (cs_X zc 0 0)]) rfl ?_
  refine lv_aload_n hx hb dL_law_634 rfl (lv_at hl 0 rfl) ?_
  refine lv_iload_n hx hb dL_law_635 rfl (lv_at hl 3 rfl) ?_
  refine lv_iconst (v := 2) hx hb dL_law_636 (by decide) ?_
  refine lv_iadd hx hb dL_law_637 ?_
  refine lv_topi (fun w637 ew637 => ?_)
  have ew637 : w637 = nI (i18 + 2) := by rw [ew637]; exact nI_p i18 2
  subst ew637
  refine va_sld hx hb hX hbl hbA hS (vp_in_nI (n := (i18 + 2)) (by omega) (by omega)) dL_law_638 ?_
  rw [nI_clamp (n := (i18 + 2)) (by omega)]
  refine W.eq (g2 := F0 m 639 ls [.int (xs (i18 + 2)), .int (xs (i18 + 1)), .ref (cs_X zc 0 0)]) rfl ?_
  refine lv_aload_n hx hb dL_law_639 rfl (lv_at hl 0 rfl) ?_
  refine lv_iload_n hx hb dL_law_640 rfl (lv_at hl 3 rfl) ?_
  refine lv_iconst (v := 3) hx hb dL_law_641 (by decide) ?_
  refine lv_iadd hx hb dL_law_642 ?_
  refine lv_topi (fun w642 ew642 => ?_)
  have ew642 : w642 = nI (i18 + 3) := by rw [ew642]; exact nI_p i18 3
  subst ew642
  refine va_sld hx hb hX hbl hbA hS (vp_in_nI (n := (i18 + 3)) (by omega) (by omega)) dL_law_643 ?_
  rw [nI_clamp (n := (i18 + 3)) (by omega)]
  refine W.eq (g2 := F0 m 644 ls [.int (xs (i18 + 3)), .int (xs (i18 + 2)), .int (xs (i18 + 1)), .ref (cs_X zc 0 0)]) rfl ?_
  have hFc := hJ.freeC hS (fun _ h => h)
  refine va_calll (va_runV (As := [.int (xs (i18 + 1)), .int (xs (i18 + 2)), .int (xs (i18 + 3))]) (rest := []) ⟨hx, hb, hml, hown, hts⟩ (K_spend l dC dI cA _ zc (xs (i18 + 1)) (xs (i18 + 2)) (xs (i18 + 3)) hR.1) (cwV 3 hts gL_law_X10_spend rfl rfl rfl (by decide +kernel) ⟨Nat.le_of_ble_eq_true rfl, Nat.le_of_ble_eq_true rfl⟩) (kw_preV (k_recv hKC hJ.1) hJ.1 hKC hJ.2.1.1 hN) rfl rfl hl.1 rfl (lv_room (Nat.le_of_ble_eq_true rfl)) dL_law_644 ⟨by omega, by omega⟩) hS (fun q _ h => hFc q h) hFc (fun r1 ur1 t H1 locs1 ht hvm hr1 hB hz1 hk1 hS1 => ?_)
  have hJ := jS_C hJ hFc ht hB hk1
  have hS := hS1
  clear hk1 hB hS1 hFc ht hvm hz1
  generalize H1 = H at hJ hS ⊢
  generalize locs1 = locs at hS ⊢
  refine lv_pop2_2 hx hb dL_law_647 rfl ?_
  refine lv_aload_n hx hb dL_law_648 rfl (lv_at hl 2 rfl) ?_
  refine lv_aload_n hx hb dL_law_649 rfl (lv_at hl 0 rfl) ?_
  refine lv_iload_n hx hb dL_law_650 rfl (lv_at hl 3 rfl) ?_
  refine lv_iconst (v := 1) hx hb dL_law_651 (by decide) ?_
  refine lv_iadd hx hb dL_law_652 ?_
  refine lv_topi (fun w652 ew652 => ?_)
  have ew652 : w652 = nI (i18 + 1) := by rw [ew652]; exact nI_p i18 1
  subst ew652
  refine va_sld hx hb hX hbl hbA hS (vp_in_nI (n := (i18 + 1)) (by omega) (by omega)) dL_law_653 ?_
  rw [nI_clamp (n := (i18 + 1)) (by omega)]
  refine W.eq (g2 := F0 m 654 ls [.int (xs (i18 + 1)), .ref qm]) rfl ?_
  refine lv_aload_n hx hb dL_law_654 rfl (lv_at hl 0 rfl) ?_
  refine lv_iload_n hx hb dL_law_655 rfl (lv_at hl 3 rfl) ?_
  refine lv_iconst (v := 2) hx hb dL_law_656 (by decide) ?_
  refine lv_iadd hx hb dL_law_657 ?_
  refine lv_topi (fun w657 ew657 => ?_)
  have ew657 : w657 = nI (i18 + 2) := by rw [ew657]; exact nI_p i18 2
  subst ew657
  refine va_sld hx hb hX hbl hbA hS (vp_in_nI (n := (i18 + 2)) (by omega) (by omega)) dL_law_658 ?_
  rw [nI_clamp (n := (i18 + 2)) (by omega)]
  refine W.eq (g2 := F0 m 659 ls [.int (xs (i18 + 2)), .int (xs (i18 + 1)), .ref qm]) rfl ?_
  refine lv_aload_n hx hb dL_law_659 rfl (lv_at hl 0 rfl) ?_
  refine lv_iload_n hx hb dL_law_660 rfl (lv_at hl 3 rfl) ?_
  refine lv_iconst (v := 3) hx hb dL_law_661 (by decide) ?_
  refine lv_iadd hx hb dL_law_662 ?_
  refine lv_topi (fun w662 ew662 => ?_)
  have ew662 : w662 = nI (i18 + 3) := by rw [ew662]; exact nI_p i18 3
  subst ew662
  refine va_sld hx hb hX hbl hbA hS (vp_in_nI (n := (i18 + 3)) (by omega) (by omega)) dL_law_663 ?_
  rw [nI_clamp (n := (i18 + 3)) (by omega)]
  refine W.eq (g2 := F0 m 664 ls [.int (xs (i18 + 3)), .int (xs (i18 + 2)), .int (xs (i18 + 1)), .ref qm]) rfl ?_
  have hFc := hJ.freeR hS (fun _ h => h)
  refine va_calll (va_runV (As := [.int (xs (i18 + 1)), .int (xs (i18 + 2)), .int (xs (i18 + 3))]) (rest := []) ⟨hx, hb, hml, hown, hts⟩ (M_spend l dC dI cI cJ cZ _ qm ad zr (xs (i18 + 1)) (xs (i18 + 2)) (xs (i18 + 3)) hR.2.1) (cwV 3 hts gL_law_X11_spend rfl rfl rfl (by decide +kernel) ⟨Nat.le_of_ble_eq_true rfl, Nat.le_of_ble_eq_true rfl⟩) (pw_preV (va_recv hKR hJ.2.2.1 (ci := 11) (q0 := 0) rfl rfl) hJ.2.2.1 hKR hJ.2.2.2.1 hN) rfl rfl hl.1 rfl (lv_room (Nat.le_of_ble_eq_true rfl)) dL_law_664 ⟨by omega, by omega⟩) hS (fun q _ h => hFc q h) hFc (fun r2 ur2 t H1 locs1 ht hvm hr2 hB hz1 hk1 hS1 => ?_)
  have hJ := jS_R hJ hFc ht hB hk1
  have hS := hS1
  clear hk1 hB hS1 hFc ht hvm hz1
  generalize H1 = H at hJ hS ⊢
  generalize locs1 = locs at hS ⊢
  refine lv_pop2_2 hx hb dL_law_667 rfl ?_
  refine lv_goto (tgt := 1195) hx hb dL_law_668 (by decide) ?_
  refine W.widen (k := cells + 1) (n := slots + 12) (by omega) (by omega) ?_
  exact kk ur1 ur2 H locs ⟨hr1.1.1, hr2.1, (stA_spend hR.2.2.1 hr1.2 hr2.2), (stB_spend hR.2.2.2.1 hr1.2 hr2.2), (stC_spend hR.2.2.2.2.1 hr1.2 hr2.2), (stD_spend hR.1 hR.2.2.2.2.2 hr1.2 hr2.2).1⟩ hr1.1.2 hJ hS
set_option maxHeartbeats 4000000 in
set_option maxRecDepth 100000 in
theorem law_671 {p : Program} {l : Launch} {e : Env} {s : State} {m : MethodId} {below : List Frame} {meth : Method} {c : Code} {b L : Nat} {xs : Nat → Int32} {dC : Nat → ClassId} {dI : Nat → Nat → Nat} {cA : Nat → ClassId} {qm : Nat} {cI cJ cZ : ClassId} {ad : Nat → Nat} {zc : CS} {zr : RS2} {H : Heap} {locs : List Loc} {ls : Array Slot} {i18 cells slots : Nat} (C0 : lw_At p s m meth c b L xs) (hL : L ≤ 3072) (hN : nst s) (hKC : va_K (dC, dI) vwCl (ctys cA) s) (hKR : va_K (dC, dI) vwCl [(cI, .int), (cJ, .long), (cZ, .boolean)] s) (hi : i18 + 6 ≤ L) (hcl : cells + 1 ≤ room_1.cells) (hsl : slots + 12 ≤ room_1.slots) (hR : jR zc zr) (hJ : jS (dC, dI) cA qm cI cJ cZ ad (fun q : Nat => s.heap.size ≤ q) zc zr H) (hS : va_S (fun q : Nat => s.heap.size ≤ q) s.heap H locs) (hl : lv_has ls 4 [(0, .ref b), (1, .ref (cs_X zc 0 0)), (2, .ref qm), (3, .int (nI i18))]) (kk : ∀ (u : CS) (v : RS2) (H : Heap) (locs : List Loc), jR u v → cs_X u 0 0 = cs_X zc 0 0 → jS (dC, dI) cA qm cI cJ cZ ad (fun q : Nat => s.heap.size ≤ q) u v H → va_S (fun q : Nat => s.heap.size ≤ q) s.heap H locs → W p l e room_1 s m #[Value.ref b] below meth c H locs (cells + 1) (slots + 12) (lw_Z below #[Value.ref b] s) (F0 m 1195 ls [])) : W p l e room_1 s m #[Value.ref b] below meth c H locs cells slots (lw_Z below #[Value.ref b] s) (F0 m 671 ls []) := by
  obtain ⟨hx, hb, hr, hml, hown, hts0, hX, hbl, hlocks, hgv⟩ := id C0
  have hbA : ¬ (fun q : Nat => s.heap.size ≤ q) b := Nat.not_le.mpr hbl
  have hts : ∀ w ∈ wsL_law, w.before #[Value.ref b] s = true := fun w h => hts0 w (wsL_law_in w h)
  refine lv_aload_n hx hb dL_law_671 rfl (lv_at hl 1 rfl) ?_
  refine lv_aload_n hx hb dL_law_672 rfl (lv_at hl 0 rfl) ?_
  refine lv_iload_n hx hb dL_law_673 rfl (lv_at hl 3 rfl) ?_
  refine lv_iconst (v := 1) hx hb dL_law_674 (by decide) ?_
  refine lv_iadd hx hb dL_law_675 ?_
  refine lv_topi (fun w675 ew675 => ?_)
  have ew675 : w675 = nI (i18 + 1) := by rw [ew675]; exact nI_p i18 1
  subst ew675
  refine va_sld hx hb hX hbl hbA hS (vp_in_nI (n := (i18 + 1)) (by omega) (by omega)) dL_law_676 ?_
  rw [nI_clamp (n := (i18 + 1)) (by omega)]
  refine W.eq (g2 := F0 m 677 ls [.int (xs (i18 + 1)), .ref (cs_X zc 0 0)]) rfl ?_
  have hFc := hJ.freeC hS (fun _ h => h)
  refine va_calll (va_runV (As := [.int (xs (i18 + 1))]) (rest := []) ⟨hx, hb, hml, hown, hts⟩ (K_settle l dC dI cA _ zc (xs (i18 + 1)) hR.1) (cwV 1 hts gL_law_X10_settle rfl rfl rfl (by decide +kernel) ⟨Nat.le_of_ble_eq_true rfl, Nat.le_of_ble_eq_true rfl⟩) (kw_preV (k_recv hKC hJ.1) hJ.1 hKC hJ.2.1.1 hN) rfl rfl hl.1 rfl (lv_room (Nat.le_of_ble_eq_true rfl)) dL_law_677 ⟨by omega, by omega⟩) hS (fun q _ h => hFc q h) hFc (fun r1 ur1 t H1 locs1 ht hvm hr1 hB hz1 hk1 hS1 => ?_)
  have hJ := jS_C hJ hFc ht hB hk1
  have hS := hS1
  clear hk1 hB hS1 hFc ht hvm hz1
  generalize H1 = H at hJ hS ⊢
  generalize locs1 = locs at hS ⊢
  refine lv_pop2_2 hx hb dL_law_680 rfl ?_
  refine lv_aload_n hx hb dL_law_681 rfl (lv_at hl 2 rfl) ?_
  refine lv_aload_n hx hb dL_law_682 rfl (lv_at hl 0 rfl) ?_
  refine lv_iload_n hx hb dL_law_683 rfl (lv_at hl 3 rfl) ?_
  refine lv_iconst (v := 1) hx hb dL_law_684 (by decide) ?_
  refine lv_iadd hx hb dL_law_685 ?_
  refine lv_topi (fun w685 ew685 => ?_)
  have ew685 : w685 = nI (i18 + 1) := by rw [ew685]; exact nI_p i18 1
  subst ew685
  refine va_sld hx hb hX hbl hbA hS (vp_in_nI (n := (i18 + 1)) (by omega) (by omega)) dL_law_686 ?_
  rw [nI_clamp (n := (i18 + 1)) (by omega)]
  refine W.eq (g2 := F0 m 687 ls [.int (xs (i18 + 1)), .ref qm]) rfl ?_
  have hFc := hJ.freeR hS (fun _ h => h)
  refine va_calll (va_runV (As := [.int (xs (i18 + 1))]) (rest := []) ⟨hx, hb, hml, hown, hts⟩ (M_settle l dC dI cI cJ cZ _ qm ad zr (xs (i18 + 1)) hR.2.1) (cwV 1 hts gL_law_X11_settle rfl rfl rfl (by decide +kernel) ⟨Nat.le_of_ble_eq_true rfl, Nat.le_of_ble_eq_true rfl⟩) (pw_preV (va_recv hKR hJ.2.2.1 (ci := 11) (q0 := 0) rfl rfl) hJ.2.2.1 hKR hJ.2.2.2.1 hN) rfl rfl hl.1 rfl (lv_room (Nat.le_of_ble_eq_true rfl)) dL_law_687 ⟨by omega, by omega⟩) hS (fun q _ h => hFc q h) hFc (fun r2 ur2 t H1 locs1 ht hvm hr2 hB hz1 hk1 hS1 => ?_)
  have hJ := jS_R hJ hFc ht hB hk1
  have hS := hS1
  clear hk1 hB hS1 hFc ht hvm hz1
  generalize H1 = H at hJ hS ⊢
  generalize locs1 = locs at hS ⊢
  refine lv_pop2_2 hx hb dL_law_690 rfl ?_
  refine lv_goto (tgt := 1195) hx hb dL_law_691 (by decide) ?_
  refine W.widen (k := cells + 1) (n := slots + 12) (by omega) (by omega) ?_
  exact kk ur1 ur2 H locs ⟨hr1.1.1, hr2.1, (stA_settle hR.2.2.1 hr1.2 hr2.2), (stB_settle hR.2.2.2.1 hr1.2 hr2.2), (stC_settle hR.2.2.2.2.1 hr1.2 hr2.2), (stD_settle hR.1 hR.2.2.1 hR.2.2.2.2.2 hr1.2 hr2.2).1⟩ hr1.1.2 hJ hS
set_option maxHeartbeats 4000000 in
set_option maxRecDepth 100000 in
theorem law_694 {p : Program} {l : Launch} {e : Env} {s : State} {m : MethodId} {below : List Frame} {meth : Method} {c : Code} {b L : Nat} {xs : Nat → Int32} {dC : Nat → ClassId} {dI : Nat → Nat → Nat} {cA : Nat → ClassId} {qm : Nat} {cI cJ cZ : ClassId} {ad : Nat → Nat} {zc : CS} {zr : RS2} {H : Heap} {locs : List Loc} {ls : Array Slot} {i18 cells slots : Nat} (C0 : lw_At p s m meth c b L xs) (hL : L ≤ 3072) (hN : nst s) (hKC : va_K (dC, dI) vwCl (ctys cA) s) (hKR : va_K (dC, dI) vwCl [(cI, .int), (cJ, .long), (cZ, .boolean)] s) (hi : i18 + 6 ≤ L) (hcl : cells + 1 ≤ room_1.cells) (hsl : slots + 12 ≤ room_1.slots) (hR : jR zc zr) (hJ : jS (dC, dI) cA qm cI cJ cZ ad (fun q : Nat => s.heap.size ≤ q) zc zr H) (hS : va_S (fun q : Nat => s.heap.size ≤ q) s.heap H locs) (hl : lv_has ls 4 [(0, .ref b), (1, .ref (cs_X zc 0 0)), (2, .ref qm), (3, .int (nI i18))]) (kk : ∀ (u : CS) (v : RS2) (H : Heap) (locs : List Loc), jR u v → cs_X u 0 0 = cs_X zc 0 0 → jS (dC, dI) cA qm cI cJ cZ ad (fun q : Nat => s.heap.size ≤ q) u v H → va_S (fun q : Nat => s.heap.size ≤ q) s.heap H locs → W p l e room_1 s m #[Value.ref b] below meth c H locs (cells + 1) (slots + 12) (lw_Z below #[Value.ref b] s) (F0 m 1195 ls [])) : W p l e room_1 s m #[Value.ref b] below meth c H locs cells slots (lw_Z below #[Value.ref b] s) (F0 m 694 ls []) := by
  obtain ⟨hx, hb, hr, hml, hown, hts0, hX, hbl, hlocks, hgv⟩ := id C0
  have hbA : ¬ (fun q : Nat => s.heap.size ≤ q) b := Nat.not_le.mpr hbl
  have hts : ∀ w ∈ wsL_law, w.before #[Value.ref b] s = true := fun w h => hts0 w (wsL_law_in w h)
  refine lv_aload_n hx hb dL_law_694 rfl (lv_at hl 1 rfl) ?_
  refine lv_aload_n hx hb dL_law_695 rfl (lv_at hl 0 rfl) ?_
  refine lv_iload_n hx hb dL_law_696 rfl (lv_at hl 3 rfl) ?_
  refine lv_iconst (v := 1) hx hb dL_law_697 (by decide) ?_
  refine lv_iadd hx hb dL_law_698 ?_
  refine lv_topi (fun w698 ew698 => ?_)
  have ew698 : w698 = nI (i18 + 1) := by rw [ew698]; exact nI_p i18 1
  subst ew698
  refine va_sld hx hb hX hbl hbA hS (vp_in_nI (n := (i18 + 1)) (by omega) (by omega)) dL_law_699 ?_
  rw [nI_clamp (n := (i18 + 1)) (by omega)]
  refine W.eq (g2 := F0 m 700 ls [.int (xs (i18 + 1)), .ref (cs_X zc 0 0)]) rfl ?_
  refine lv_aload_n hx hb dL_law_700 rfl (lv_at hl 0 rfl) ?_
  refine lv_iload_n hx hb dL_law_701 rfl (lv_at hl 3 rfl) ?_
  refine lv_iconst (v := 2) hx hb dL_law_702 (by decide) ?_
  refine lv_iadd hx hb dL_law_703 ?_
  refine lv_topi (fun w703 ew703 => ?_)
  have ew703 : w703 = nI (i18 + 2) := by rw [ew703]; exact nI_p i18 2
  subst ew703
  refine va_sld hx hb hX hbl hbA hS (vp_in_nI (n := (i18 + 2)) (by omega) (by omega)) dL_law_704 ?_
  rw [nI_clamp (n := (i18 + 2)) (by omega)]
  refine W.eq (g2 := F0 m 705 ls [.int (xs (i18 + 2)), .int (xs (i18 + 1)), .ref (cs_X zc 0 0)]) rfl ?_
  have hFc := hJ.freeC hS (fun _ h => h)
  refine va_calli (va_runV (As := [.int (xs (i18 + 1)), .int (xs (i18 + 2))]) (rest := []) ⟨hx, hb, hml, hown, hts⟩ (K_taken l dC dI cA _ zc (xs (i18 + 1)) (xs (i18 + 2)) hR.1) (cwV 2 hts gL_law_X10_taken rfl rfl rfl (by decide +kernel) ⟨Nat.le_of_ble_eq_true rfl, Nat.le_of_ble_eq_true rfl⟩) (kw_preV (k_recv hKC hJ.1) hJ.1 hKC hJ.2.1.1 hN) rfl rfl hl.1 rfl (lv_room (Nat.le_of_ble_eq_true rfl)) dL_law_705 ⟨by omega, by omega⟩) hS (fun q _ h => hFc q h) hFc (fun r1 ur1 t H1 locs1 ht hvm hr1 hB hz1 hk1 hS1 => ?_)
  have hJ := jS_C hJ hFc ht hB hk1
  have hS := hS1
  clear hk1 hB hS1 hFc ht hvm hz1
  generalize H1 = H at hJ hS ⊢
  generalize locs1 = locs at hS ⊢
  refine lv_pop hx hb dL_law_708 rfl ?_
  refine lv_aload_n hx hb dL_law_709 rfl (lv_at hl 2 rfl) ?_
  refine lv_aload_n hx hb dL_law_710 rfl (lv_at hl 0 rfl) ?_
  refine lv_iload_n hx hb dL_law_711 rfl (lv_at hl 3 rfl) ?_
  refine lv_iconst (v := 1) hx hb dL_law_712 (by decide) ?_
  refine lv_iadd hx hb dL_law_713 ?_
  refine lv_topi (fun w713 ew713 => ?_)
  have ew713 : w713 = nI (i18 + 1) := by rw [ew713]; exact nI_p i18 1
  subst ew713
  refine va_sld hx hb hX hbl hbA hS (vp_in_nI (n := (i18 + 1)) (by omega) (by omega)) dL_law_714 ?_
  rw [nI_clamp (n := (i18 + 1)) (by omega)]
  refine W.eq (g2 := F0 m 715 ls [.int (xs (i18 + 1)), .ref qm]) rfl ?_
  refine lv_aload_n hx hb dL_law_715 rfl (lv_at hl 0 rfl) ?_
  refine lv_iload_n hx hb dL_law_716 rfl (lv_at hl 3 rfl) ?_
  refine lv_iconst (v := 2) hx hb dL_law_717 (by decide) ?_
  refine lv_iadd hx hb dL_law_718 ?_
  refine lv_topi (fun w718 ew718 => ?_)
  have ew718 : w718 = nI (i18 + 2) := by rw [ew718]; exact nI_p i18 2
  subst ew718
  refine va_sld hx hb hX hbl hbA hS (vp_in_nI (n := (i18 + 2)) (by omega) (by omega)) dL_law_719 ?_
  rw [nI_clamp (n := (i18 + 2)) (by omega)]
  refine W.eq (g2 := F0 m 720 ls [.int (xs (i18 + 2)), .int (xs (i18 + 1)), .ref qm]) rfl ?_
  have hFc := hJ.freeR hS (fun _ h => h)
  refine va_calli (va_runV (As := [.int (xs (i18 + 1)), .int (xs (i18 + 2))]) (rest := []) ⟨hx, hb, hml, hown, hts⟩ (M_taken l dC dI cI cJ cZ _ qm ad zr (xs (i18 + 1)) (xs (i18 + 2)) hR.2.1) (cwV 2 hts gL_law_X11_taken rfl rfl rfl (by decide +kernel) ⟨Nat.le_of_ble_eq_true rfl, Nat.le_of_ble_eq_true rfl⟩) (pw_preV (va_recv hKR hJ.2.2.1 (ci := 11) (q0 := 0) rfl rfl) hJ.2.2.1 hKR hJ.2.2.2.1 hN) rfl rfl hl.1 rfl (lv_room (Nat.le_of_ble_eq_true rfl)) dL_law_720 ⟨by omega, by omega⟩) hS (fun q _ h => hFc q h) hFc (fun r2 ur2 t H1 locs1 ht hvm hr2 hB hz1 hk1 hS1 => ?_)
  have hJ := jS_R hJ hFc ht hB hk1
  have hS := hS1
  clear hk1 hB hS1 hFc ht hvm hz1
  generalize H1 = H at hJ hS ⊢
  generalize locs1 = locs at hS ⊢
  refine lv_pop hx hb dL_law_723 rfl ?_
  refine lv_goto (tgt := 1195) hx hb dL_law_724 (by decide) ?_
  refine W.widen (k := cells + 1) (n := slots + 12) (by omega) (by omega) ?_
  exact kk ur1 ur2 H locs ⟨hr1.1.1, hr2.1, (stA_taken hR.2.2.1 hr1.2 hr2.2), (stB_taken hR.2.2.2.1 hr1.2 hr2.2), (stC_taken hR.2.2.2.2.1 hr1.2 hr2.2), (stD_taken hR.2.2.2.2.2 hr1.2 hr2.2)⟩ hr1.1.2 hJ hS
set_option maxHeartbeats 4000000 in
set_option maxRecDepth 100000 in
theorem law_727 {p : Program} {l : Launch} {e : Env} {s : State} {m : MethodId} {below : List Frame} {meth : Method} {c : Code} {b L : Nat} {xs : Nat → Int32} {dC : Nat → ClassId} {dI : Nat → Nat → Nat} {cA : Nat → ClassId} {qm : Nat} {cI cJ cZ : ClassId} {ad : Nat → Nat} {zc : CS} {zr : RS2} {H : Heap} {locs : List Loc} {ls : Array Slot} {i18 cells slots : Nat} (C0 : lw_At p s m meth c b L xs) (hL : L ≤ 3072) (hN : nst s) (hKC : va_K (dC, dI) vwCl (ctys cA) s) (hKR : va_K (dC, dI) vwCl [(cI, .int), (cJ, .long), (cZ, .boolean)] s) (hi : i18 + 6 ≤ L) (hcl : cells + 1 ≤ room_1.cells) (hsl : slots + 12 ≤ room_1.slots) (hR : jR zc zr) (hJ : jS (dC, dI) cA qm cI cJ cZ ad (fun q : Nat => s.heap.size ≤ q) zc zr H) (hS : va_S (fun q : Nat => s.heap.size ≤ q) s.heap H locs) (hl : lv_has ls 4 [(0, .ref b), (1, .ref (cs_X zc 0 0)), (2, .ref qm), (3, .int (nI i18))]) (kk : ∀ (u : CS) (v : RS2) (H : Heap) (locs : List Loc), jR u v → cs_X u 0 0 = cs_X zc 0 0 → jS (dC, dI) cA qm cI cJ cZ ad (fun q : Nat => s.heap.size ≤ q) u v H → va_S (fun q : Nat => s.heap.size ≤ q) s.heap H locs → W p l e room_1 s m #[Value.ref b] below meth c H locs (cells + 1) (slots + 12) (lw_Z below #[Value.ref b] s) (F0 m 1195 ls [])) : W p l e room_1 s m #[Value.ref b] below meth c H locs cells slots (lw_Z below #[Value.ref b] s) (F0 m 727 ls []) := by
  obtain ⟨hx, hb, hr, hml, hown, hts0, hX, hbl, hlocks, hgv⟩ := id C0
  have hbA : ¬ (fun q : Nat => s.heap.size ≤ q) b := Nat.not_le.mpr hbl
  have hts : ∀ w ∈ wsL_law, w.before #[Value.ref b] s = true := fun w h => hts0 w (wsL_law_in w h)
  refine lv_aload_n hx hb dL_law_727 rfl (lv_at hl 1 rfl) ?_
  refine lv_aload_n hx hb dL_law_728 rfl (lv_at hl 0 rfl) ?_
  refine lv_iload_n hx hb dL_law_729 rfl (lv_at hl 3 rfl) ?_
  refine lv_iconst (v := 1) hx hb dL_law_730 (by decide) ?_
  refine lv_iadd hx hb dL_law_731 ?_
  refine lv_topi (fun w731 ew731 => ?_)
  have ew731 : w731 = nI (i18 + 1) := by rw [ew731]; exact nI_p i18 1
  subst ew731
  refine va_sld hx hb hX hbl hbA hS (vp_in_nI (n := (i18 + 1)) (by omega) (by omega)) dL_law_732 ?_
  rw [nI_clamp (n := (i18 + 1)) (by omega)]
  refine W.eq (g2 := F0 m 733 ls [.int (xs (i18 + 1)), .ref (cs_X zc 0 0)]) rfl ?_
  refine lv_aload_n hx hb dL_law_733 rfl (lv_at hl 0 rfl) ?_
  refine lv_iload_n hx hb dL_law_734 rfl (lv_at hl 3 rfl) ?_
  refine lv_iconst (v := 2) hx hb dL_law_735 (by decide) ?_
  refine lv_iadd hx hb dL_law_736 ?_
  refine lv_topi (fun w736 ew736 => ?_)
  have ew736 : w736 = nI (i18 + 2) := by rw [ew736]; exact nI_p i18 2
  subst ew736
  refine va_sld hx hb hX hbl hbA hS (vp_in_nI (n := (i18 + 2)) (by omega) (by omega)) dL_law_737 ?_
  rw [nI_clamp (n := (i18 + 2)) (by omega)]
  refine W.eq (g2 := F0 m 738 ls [.int (xs (i18 + 2)), .int (xs (i18 + 1)), .ref (cs_X zc 0 0)]) rfl ?_
  have hFc := hJ.freeC hS (fun _ h => h)
  refine va_calll (va_runV (As := [.int (xs (i18 + 1)), .int (xs (i18 + 2))]) (rest := []) ⟨hx, hb, hml, hown, hts⟩ (K_money l dC dI cA _ zc (xs (i18 + 1)) (xs (i18 + 2)) hR.1) (cwV 2 hts gL_law_X10_money rfl rfl rfl (by decide +kernel) ⟨Nat.le_of_ble_eq_true rfl, Nat.le_of_ble_eq_true rfl⟩) (kw_preV (k_recv hKC hJ.1) hJ.1 hKC hJ.2.1.1 hN) rfl rfl hl.1 rfl (lv_room (Nat.le_of_ble_eq_true rfl)) dL_law_738 ⟨by omega, by omega⟩) hS (fun q _ h => hFc q h) hFc (fun r1 ur1 t H1 locs1 ht hvm hr1 hB hz1 hk1 hS1 => ?_)
  have hJ := jS_C hJ hFc ht hB hk1
  have hS := hS1
  clear hk1 hB hS1 hFc ht hvm hz1
  generalize H1 = H at hJ hS ⊢
  generalize locs1 = locs at hS ⊢
  refine lv_pop2_2 hx hb dL_law_741 rfl ?_
  refine lv_aload_n hx hb dL_law_742 rfl (lv_at hl 2 rfl) ?_
  refine lv_aload_n hx hb dL_law_743 rfl (lv_at hl 0 rfl) ?_
  refine lv_iload_n hx hb dL_law_744 rfl (lv_at hl 3 rfl) ?_
  refine lv_iconst (v := 1) hx hb dL_law_745 (by decide) ?_
  refine lv_iadd hx hb dL_law_746 ?_
  refine lv_topi (fun w746 ew746 => ?_)
  have ew746 : w746 = nI (i18 + 1) := by rw [ew746]; exact nI_p i18 1
  subst ew746
  refine va_sld hx hb hX hbl hbA hS (vp_in_nI (n := (i18 + 1)) (by omega) (by omega)) dL_law_747 ?_
  rw [nI_clamp (n := (i18 + 1)) (by omega)]
  refine W.eq (g2 := F0 m 748 ls [.int (xs (i18 + 1)), .ref qm]) rfl ?_
  refine lv_aload_n hx hb dL_law_748 rfl (lv_at hl 0 rfl) ?_
  refine lv_iload_n hx hb dL_law_749 rfl (lv_at hl 3 rfl) ?_
  refine lv_iconst (v := 2) hx hb dL_law_750 (by decide) ?_
  refine lv_iadd hx hb dL_law_751 ?_
  refine lv_topi (fun w751 ew751 => ?_)
  have ew751 : w751 = nI (i18 + 2) := by rw [ew751]; exact nI_p i18 2
  subst ew751
  refine va_sld hx hb hX hbl hbA hS (vp_in_nI (n := (i18 + 2)) (by omega) (by omega)) dL_law_752 ?_
  rw [nI_clamp (n := (i18 + 2)) (by omega)]
  refine W.eq (g2 := F0 m 753 ls [.int (xs (i18 + 2)), .int (xs (i18 + 1)), .ref qm]) rfl ?_
  have hFc := hJ.freeR hS (fun _ h => h)
  refine va_calll (va_runV (As := [.int (xs (i18 + 1)), .int (xs (i18 + 2))]) (rest := []) ⟨hx, hb, hml, hown, hts⟩ (M_money l dC dI cI cJ cZ _ qm ad zr (xs (i18 + 1)) (xs (i18 + 2)) hR.2.1) (cwV 2 hts gL_law_X11_money rfl rfl rfl (by decide +kernel) ⟨Nat.le_of_ble_eq_true rfl, Nat.le_of_ble_eq_true rfl⟩) (pw_preV (va_recv hKR hJ.2.2.1 (ci := 11) (q0 := 0) rfl rfl) hJ.2.2.1 hKR hJ.2.2.2.1 hN) rfl rfl hl.1 rfl (lv_room (Nat.le_of_ble_eq_true rfl)) dL_law_753 ⟨by omega, by omega⟩) hS (fun q _ h => hFc q h) hFc (fun r2 ur2 t H1 locs1 ht hvm hr2 hB hz1 hk1 hS1 => ?_)
  have hJ := jS_R hJ hFc ht hB hk1
  have hS := hS1
  clear hk1 hB hS1 hFc ht hvm hz1
  generalize H1 = H at hJ hS ⊢
  generalize locs1 = locs at hS ⊢
  refine lv_pop2_2 hx hb dL_law_756 rfl ?_
  refine lv_goto (tgt := 1195) hx hb dL_law_757 (by decide) ?_
  refine W.widen (k := cells + 1) (n := slots + 12) (by omega) (by omega) ?_
  exact kk ur1 ur2 H locs ⟨hr1.1.1, hr2.1, (stA_money hR.2.2.1 hr1.2 hr2.2), (stB_money hR.2.2.2.1 hr1.2 hr2.2), (stC_money hR.2.2.2.2.1 hr1.2 hr2.2), (stD_money hR.2.2.2.2.2 hr1.2 hr2.2)⟩ hr1.1.2 hJ hS
