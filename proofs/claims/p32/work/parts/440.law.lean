set_option maxHeartbeats 4000000 in
set_option maxRecDepth 100000 in
theorem law_loop {p : Program} {l : Launch} {e : Env} {s : State} {m : MethodId} {below : List Frame} {meth : Method} {c : Code} {b L : Nat} {xs : Nat → Int32} {dC : Nat → ClassId} {dI : Nat → Nat → Nat} {cA : Nat → ClassId} {qm : Nat} {cI cJ cZ : ClassId} {ad : Nat → Nat} (C0 : lw_At p s m meth c b L xs) (hL : L ≤ 3072) (hN : nst s) (hKC : va_K (dC, dI) vwCl (ctys cA) s) (hKR : va_K (dC, dI) vwCl [(cI, .int), (cJ, .long), (cZ, .boolean)] s) : ∀ (f i18 : Nat) (zc : CS) (zr : RS2) (H : Heap) (locs : List Loc) (ls : Array Slot) (cells slots : Nat), L < i18 + 6 * (f + 1) → i18 ≤ 3100 → cells + f ≤ 635479 → slots + 12 * f ≤ 7195810 → jR zc zr → jS (dC, dI) cA qm cI cJ cZ ad (fun q : Nat => s.heap.size ≤ q) zc zr H → va_S (fun q : Nat => s.heap.size ≤ q) s.heap H locs → lv_has ls 4 [(0, .ref b), (1, .ref (cs_X zc 0 0)), (2, .ref qm), (3, .int (nI i18))] → W p l e room_1 s m #[Value.ref b] below meth c H locs cells slots (lw_Z below #[Value.ref b] s) (F0 m 18 ls []) := by
  obtain ⟨hx, hb, hr, hml, hown, hts0, hX, hbl, hlocks, hgv⟩ := id C0
  have hbA : ¬ (fun q : Nat => s.heap.size ≤ q) b := Nat.not_le.mpr hbl
  have hts : ∀ w ∈ wsL_law, w.before #[Value.ref b] s = true := fun w h => hts0 w (wsL_law_in w h)
  intro f
  induction f with
  | zero =>
    intro i18 zc zr H locs ls cells slots hf hi0 hcl hsl hR hJ hS hl
    refine lv_iload_n hx hb dL_law_18 rfl (lv_at hl 3 rfl) ?_
    refine lv_aload_n hx hb dL_law_19 rfl (lv_at hl 0 rfl) ?_
    refine va_slen hx hb hX hbl hbA hS dL_law_20 ?_
    refine W.eq (g2 := F0 m 21 ls [.int (nI L), .int (nI i18)]) rfl ?_
    refine lv_bipush (v := 6) hx hb dL_law_21 (by decide) ?_
    refine lv_isub hx hb dL_law_23 ?_
    refine lv_icmp_gt (tgt := 1201) hx hb dL_law_24 (by decide) (fun c1 => ?_) (fun c1 => ?_)
    · skip
      refine lv_iconst (v := 1) hx hb dL_law_1201 (by decide) ?_
      refine va_forget (fun q hq => hS.2.2 q hq) ?_
      refine W.widen (k := 635479) (n := 7195810) (by omega) (by omega) ?_
      exact lw_ret hx hb hr hlocks dL_law_1202
    · exact absurd c1 (not_not_intro ((law_gt hL (by omega)).mpr (by omega)))
  | succ f ih =>
    intro i18 zc zr H locs ls cells slots hf hi0 hcl hsl hR hJ hS hl
    have hback : ∀ (u : CS) (v : RS2) (H : Heap) (locs : List Loc), i18 + 6 ≤ L → jR u v → cs_X u 0 0 = cs_X zc 0 0 → jS (dC, dI) cA qm cI cJ cZ ad (fun q : Nat => s.heap.size ≤ q) u v H → va_S (fun q : Nat => s.heap.size ≤ q) s.heap H locs → W p l e room_1 s m #[Value.ref b] below meth c H locs (cells + 1) (slots + 12) (lw_Z below #[Value.ref b] s) (F0 m 1195 ls []) := by
      intro u v H locs hi hR hX0 hJ hS
      refine lv_iinc (v := nI (i18 + 6)) (lv' := [(3, .int (nI (i18 + 6))), (0, .ref b), (1, .ref (cs_X zc 0 0)), (2, .ref qm)]) hx hb dL_law_1195 hl (k := 3) rfl (nI_p i18 6) (by decide) rfl (fun ls hl => ?_)
      refine lv_goto (tgt := 18) hx hb dL_law_1198 (by decide) ?_
      exact ih (i18 + 6) u v H locs _ (cells + 1) (slots + 12) (by omega) (by omega) (by omega) (by omega) hR hJ hS (by rw [hX0]; exact lv_sub hl [1, 2, 3, 0] rfl)
    refine lv_iload_n hx hb dL_law_18 rfl (lv_at hl 3 rfl) ?_
    refine lv_aload_n hx hb dL_law_19 rfl (lv_at hl 0 rfl) ?_
    refine va_slen hx hb hX hbl hbA hS dL_law_20 ?_
    refine W.eq (g2 := F0 m 21 ls [.int (nI L), .int (nI i18)]) rfl ?_
    refine lv_bipush (v := 6) hx hb dL_law_21 (by decide) ?_
    refine lv_isub hx hb dL_law_23 ?_
    refine lv_icmp_gt (tgt := 1201) hx hb dL_law_24 (by decide) (fun c1 => ?_) (fun c1 => ?_)
    · skip
      refine lv_iconst (v := 1) hx hb dL_law_1201 (by decide) ?_
      refine va_forget (fun q hq => hS.2.2 q hq) ?_
      refine W.widen (k := 635479) (n := 7195810) (by omega) (by omega) ?_
      exact lw_ret hx hb hr hlocks dL_law_1202
    · skip
      have hi : i18 + 6 ≤ L := Nat.not_lt.mp (fun q => c1 ((law_gt hL (by omega)).mpr q))
      refine lv_aload_n hx hb dL_law_27 rfl (lv_at hl 0 rfl) ?_
      refine lv_iload_n hx hb dL_law_28 rfl (lv_at hl 3 rfl) ?_
      refine va_sld hx hb hX hbl hbA hS (vp_in_nI (n := i18) (by omega) (by omega)) dL_law_29 ?_
      rw [nI_clamp (n := i18) (by omega)]
      refine W.eq (g2 := F0 m 30 ls [.int (xs i18)]) rfl ?_
      refine lv_bipush (v := 31) hx hb dL_law_30 (by decide) ?_
      refine lv_iand hx hb dL_law_32 ?_
      refine lv_topi (fun kk ekk => ?_)
      by_cases hw2 : kk = 0
      · subst hw2
        refine lv_tableIn (off := 139) (tgt := 172) hx hb dL_law_33 (by decide) (by decide) rfl (by decide) ?_
        exact law_172 C0 hL hN hKC hKR hi (by show _ ≤ 635479; omega) (by show _ ≤ 7195810; omega) hR hJ hS hl (fun u v H locs => hback u v H locs hi)
      by_cases hw3 : kk = 1
      · subst hw3
        refine lv_tableIn (off := 192) (tgt := 225) hx hb dL_law_33 (by decide) (by decide) rfl (by decide) ?_
        exact law_225 C0 hL hN hKC hKR hi (by show _ ≤ 635479; omega) (by show _ ≤ 7195810; omega) hR hJ hS hl (fun u v H locs => hback u v H locs hi)
      by_cases hw4 : kk = 2
      · subst hw4
        refine lv_tableIn (off := 215) (tgt := 248) hx hb dL_law_33 (by decide) (by decide) rfl (by decide) ?_
        exact law_248 C0 hL hN hKC hKR hi (by show _ ≤ 635479; omega) (by show _ ≤ 7195810; omega) hR hJ hS hl (fun u v H locs => hback u v H locs hi)
      by_cases hw5 : kk = 3
      · subst hw5
        refine lv_tableIn (off := 258) (tgt := 291) hx hb dL_law_33 (by decide) (by decide) rfl (by decide) ?_
        exact law_291 C0 hL hN hKC hKR hi (by show _ ≤ 635479; omega) (by show _ ≤ 7195810; omega) hR hJ hS hl (fun u v H locs => hback u v H locs hi)
      by_cases hw6 : kk = 4
      · subst hw6
        refine lv_tableIn (off := 321) (tgt := 354) hx hb dL_law_33 (by decide) (by decide) rfl (by decide) ?_
        exact law_354 C0 hL hN hKC hKR hi (by show _ ≤ 635479; omega) (by show _ ≤ 7195810; omega) hR hJ hS hl (fun u v H locs => hback u v H locs hi)
      by_cases hw7 : kk = 5
      · subst hw7
        refine lv_tableIn (off := 384) (tgt := 417) hx hb dL_law_33 (by decide) (by decide) rfl (by decide) ?_
        exact law_417 C0 hL hN hKC hKR hi (by show _ ≤ 635479; omega) (by show _ ≤ 7195810; omega) hR hJ hS hl (fun u v H locs => hback u v H locs hi)
      by_cases hw8 : kk = 6
      · subst hw8
        refine lv_tableIn (off := 417) (tgt := 450) hx hb dL_law_33 (by decide) (by decide) rfl (by decide) ?_
        exact law_450 C0 hL hN hKC hKR hi (by show _ ≤ 635479; omega) (by show _ ≤ 7195810; omega) hR hJ hS hl (fun u v H locs => hback u v H locs hi)
      by_cases hw9 : kk = 7
      · subst hw9
        refine lv_tableIn (off := 440) (tgt := 473) hx hb dL_law_33 (by decide) (by decide) rfl (by decide) ?_
        exact law_473 C0 hL hN hKC hKR hi (by show _ ≤ 635479; omega) (by show _ ≤ 7195810; omega) hR hJ hS hl (fun u v H locs => hback u v H locs hi)
      by_cases hw10 : kk = 8
      · subst hw10
        refine lv_tableIn (off := 473) (tgt := 506) hx hb dL_law_33 (by decide) (by decide) rfl (by decide) ?_
        exact law_506 C0 hL hN hKC hKR hi (by show _ ≤ 635479; omega) (by show _ ≤ 7195810; omega) hR hJ hS hl (fun u v H locs => hback u v H locs hi)
      by_cases hw11 : kk = 9
      · subst hw11
        refine lv_tableIn (off := 506) (tgt := 539) hx hb dL_law_33 (by decide) (by decide) rfl (by decide) ?_
        exact law_539 C0 hL hN hKC hKR hi (by show _ ≤ 635479; omega) (by show _ ≤ 7195810; omega) hR hJ hS hl (fun u v H locs => hback u v H locs hi)
      by_cases hw12 : kk = 10
      · subst hw12
        refine lv_tableIn (off := 519) (tgt := 552) hx hb dL_law_33 (by decide) (by decide) rfl (by decide) ?_
        exact law_552 C0 hL hN hKC hKR hi (by show _ ≤ 635479; omega) (by show _ ≤ 7195810; omega) hR hJ hS hl (fun u v H locs => hback u v H locs hi)
      by_cases hw13 : kk = 11
      · subst hw13
        refine lv_tableIn (off := 552) (tgt := 585) hx hb dL_law_33 (by decide) (by decide) rfl (by decide) ?_
        exact law_585 C0 hL hN hKC hKR hi (by show _ ≤ 635479; omega) (by show _ ≤ 7195810; omega) hR hJ hS hl (fun u v H locs => hback u v H locs hi)
      by_cases hw14 : kk = 12
      · subst hw14
        refine lv_tableIn (off := 595) (tgt := 628) hx hb dL_law_33 (by decide) (by decide) rfl (by decide) ?_
        exact law_628 C0 hL hN hKC hKR hi (by show _ ≤ 635479; omega) (by show _ ≤ 7195810; omega) hR hJ hS hl (fun u v H locs => hback u v H locs hi)
      by_cases hw15 : kk = 13
      · subst hw15
        refine lv_tableIn (off := 638) (tgt := 671) hx hb dL_law_33 (by decide) (by decide) rfl (by decide) ?_
        exact law_671 C0 hL hN hKC hKR hi (by show _ ≤ 635479; omega) (by show _ ≤ 7195810; omega) hR hJ hS hl (fun u v H locs => hback u v H locs hi)
      by_cases hw16 : kk = 14
      · subst hw16
        refine lv_tableIn (off := 661) (tgt := 694) hx hb dL_law_33 (by decide) (by decide) rfl (by decide) ?_
        exact law_694 C0 hL hN hKC hKR hi (by show _ ≤ 635479; omega) (by show _ ≤ 7195810; omega) hR hJ hS hl (fun u v H locs => hback u v H locs hi)
      by_cases hw17 : kk = 15
      · subst hw17
        refine lv_tableIn (off := 694) (tgt := 727) hx hb dL_law_33 (by decide) (by decide) rfl (by decide) ?_
        exact law_727 C0 hL hN hKC hKR hi (by show _ ≤ 635479; omega) (by show _ ≤ 7195810; omega) hR hJ hS hl (fun u v H locs => hback u v H locs hi)
      by_cases hw18 : kk = 16
      · subst hw18
        refine lv_tableIn (off := 727) (tgt := 760) hx hb dL_law_33 (by decide) (by decide) rfl (by decide) ?_
        exact law_760 C0 hL hN hKC hKR hi (by show _ ≤ 635479; omega) (by show _ ≤ 7195810; omega) hR hJ hS hl (fun u v H locs => hback u v H locs hi)
      by_cases hw19 : kk = 17
      · subst hw19
        refine lv_tableIn (off := 750) (tgt := 783) hx hb dL_law_33 (by decide) (by decide) rfl (by decide) ?_
        exact law_783 C0 hL hN hKC hKR hi (by show _ ≤ 635479; omega) (by show _ ≤ 7195810; omega) hR hJ hS hl (fun u v H locs => hback u v H locs hi)
      by_cases hw20 : kk = 18
      · subst hw20
        refine lv_tableIn (off := 763) (tgt := 796) hx hb dL_law_33 (by decide) (by decide) rfl (by decide) ?_
        exact law_796 C0 hL hN hKC hKR hi (by show _ ≤ 635479; omega) (by show _ ≤ 7195810; omega) hR hJ hS hl (fun u v H locs => hback u v H locs hi)
      by_cases hw21 : kk = 19
      · subst hw21
        refine lv_tableIn (off := 786) (tgt := 819) hx hb dL_law_33 (by decide) (by decide) rfl (by decide) ?_
        exact law_819 C0 hL hN hKC hKR hi (by show _ ≤ 635479; omega) (by show _ ≤ 7195810; omega) hR hJ hS hl (fun u v H locs => hback u v H locs hi)
      by_cases hw22 : kk = 20
      · subst hw22
        refine lv_tableIn (off := 819) (tgt := 852) hx hb dL_law_33 (by decide) (by decide) rfl (by decide) ?_
        exact law_852 C0 hL hN hKC hKR hi (by show _ ≤ 635479; omega) (by show _ ≤ 7195810; omega) hR hJ hS hl (fun u v H locs => hback u v H locs hi)
      by_cases hw23 : kk = 21
      · subst hw23
        refine lv_tableIn (off := 862) (tgt := 895) hx hb dL_law_33 (by decide) (by decide) rfl (by decide) ?_
        exact law_895 C0 hL hN hKC hKR hi (by show _ ≤ 635479; omega) (by show _ ≤ 7195810; omega) hR hJ hS hl (fun u v H locs => hback u v H locs hi)
      by_cases hw24 : kk = 22
      · subst hw24
        refine lv_tableIn (off := 885) (tgt := 918) hx hb dL_law_33 (by decide) (by decide) rfl (by decide) ?_
        exact law_918 C0 hL hN hKC hKR hi (by show _ ≤ 635479; omega) (by show _ ≤ 7195810; omega) hR hJ hS hl (fun u v H locs => hback u v H locs hi)
      by_cases hw25 : kk = 23
      · subst hw25
        refine lv_tableIn (off := 928) (tgt := 961) hx hb dL_law_33 (by decide) (by decide) rfl (by decide) ?_
        exact law_961 C0 hL hN hKC hKR hi (by show _ ≤ 635479; omega) (by show _ ≤ 7195810; omega) hR hJ hS hl (fun u v H locs => hback u v H locs hi)
      by_cases hw26 : kk = 24
      · subst hw26
        refine lv_tableIn (off := 971) (tgt := 1004) hx hb dL_law_33 (by decide) (by decide) rfl (by decide) ?_
        exact law_1004 C0 hL hN hKC hKR hi (by show _ ≤ 635479; omega) (by show _ ≤ 7195810; omega) hR hJ hS hl (fun u v H locs => hback u v H locs hi)
      by_cases hw27 : kk = 25
      · subst hw27
        refine lv_tableIn (off := 1034) (tgt := 1067) hx hb dL_law_33 (by decide) (by decide) rfl (by decide) ?_
        exact law_1067 C0 hL hN hKC hKR hi (by show _ ≤ 635479; omega) (by show _ ≤ 7195810; omega) hR hJ hS hl (fun u v H locs => hback u v H locs hi)
      by_cases hw28 : kk = 26
      · subst hw28
        refine lv_tableIn (off := 1057) (tgt := 1090) hx hb dL_law_33 (by decide) (by decide) rfl (by decide) ?_
        exact law_1090 C0 hL hN hKC hKR hi (by show _ ≤ 635479; omega) (by show _ ≤ 7195810; omega) hR hJ hS hl (fun u v H locs => hback u v H locs hi)
      by_cases hw29 : kk = 27
      · subst hw29
        refine lv_tableIn (off := 1080) (tgt := 1113) hx hb dL_law_33 (by decide) (by decide) rfl (by decide) ?_
        exact law_1113 C0 hL hN hKC hKR hi (by show _ ≤ 635479; omega) (by show _ ≤ 7195810; omega) hR hJ hS hl (fun u v H locs => hback u v H locs hi)
      by_cases hw30 : kk = 28
      · subst hw30
        refine lv_tableIn (off := 1113) (tgt := 1146) hx hb dL_law_33 (by decide) (by decide) rfl (by decide) ?_
        exact law_1146 C0 hL hN hKC hKR hi (by show _ ≤ 635479; omega) (by show _ ≤ 7195810; omega) hR hJ hS hl (fun u v H locs => hback u v H locs hi)
      by_cases hw31 : kk = 29
      · subst hw31
        refine lv_tableIn (off := 1126) (tgt := 1159) hx hb dL_law_33 (by decide) (by decide) rfl (by decide) ?_
        exact law_1159 C0 hL hN hKC hKR hi (by show _ ≤ 635479; omega) (by show _ ≤ 7195810; omega) hR hJ hS hl (fun u v H locs => hback u v H locs hi)
      by_cases hw32 : kk = 30
      · subst hw32
        refine lv_tableIn (off := 1139) (tgt := 1172) hx hb dL_law_33 (by decide) (by decide) rfl (by decide) ?_
        exact law_1172 C0 hL hN hKC hKR hi (by show _ ≤ 635479; omega) (by show _ ≤ 7195810; omega) hR hJ hS hl (fun u v H locs => hback u v H locs hi)
      refine lv_tableOut (tgt := 1195) hx hb dL_law_33 (tb_out31 hw2 hw3 hw4 hw5 hw6 hw7 hw8 hw9 hw10 hw11 hw12 hw13 hw14 hw15 hw16 hw17 hw18 hw19 hw20 hw21 hw22 hw23 hw24 hw25 hw26 hw27 hw28 hw29 hw30 hw31 hw32) (by decide) ?_
      exact W.widen (by omega) (by omega) (hback zc zr H locs hi hR rfl hJ hS)
