set_option maxHeartbeats 4000000 in
set_option maxRecDepth 100000 in
theorem whole_start {p : Program} {e : Env} {s : State} {m : MethodId} {below : List Frame} {meth : Method} {c : Code} (l : Launch) {b L : Nat} {xs : Nat → Int32} (hL : L ≤ 6) (C0 : lw_At p s m meth c b L xs) : W p l e room_1 s m #[Value.ref b] below meth c s.heap [] 0 0 (lw_Z below #[Value.ref b] s) (entryFrame m ([Value.ref b] : List Value).toArray 4) := by
  obtain ⟨hx, hb, hr, hml, hown, hts0, hX, hbl, hlocks, hgv⟩ := id C0
  have hA : ∀ q : Nat, s.heap.size ≤ q → (fun q : Nat => s.heap.size ≤ q) q := fun _ h => h
  have hbA : ¬ (fun q : Nat => s.heap.size ≤ q) b := Nat.not_le.mpr hbl
  obtain ⟨c0, iS0, hKn0⟩ := u_known (C := RX0) (T := TX0) (N := 4) (n := 4) hts0 inX0 (hts0 (.instantiable RX0 4) (List.mem_of_getElem? (i := 371) (by decide +kernel)))
  obtain ⟨c1, iS1, hKn1⟩ := u_known (C := RX1) (T := TX1) (N := 4) (n := 4) hts0 inX1 (hts0 (.instantiable RX1 4) (List.mem_of_getElem? (i := 352) (by decide +kernel)))
  obtain ⟨c2, iS2, hKn2⟩ := u_known (C := RX2) (T := TX2) (N := 4) (n := 4) hts0 inX2 (hts0 (.instantiable RX2 4) (List.mem_of_getElem? (i := 359) (by decide +kernel)))
  obtain ⟨c3, iS3, hKn3⟩ := u_known (C := RX3) (T := TX3) (N := 5) (n := 5) hts0 inX3 (hts0 (.instantiable RX3 5) (List.mem_of_getElem? (i := 54) (by decide +kernel)))
  obtain ⟨c4, iS4, hKn4⟩ := u_known (C := RX4) (T := TX4) (N := 4) (n := 4) hts0 inX4 (hts0 (.instantiable RX4 4) (List.mem_of_getElem? (i := 320) (by decide +kernel)))
  obtain ⟨c5, iS5, hKn5⟩ := u_known (C := RX5) (T := TX5) (N := 2) (n := 2) hts0 inX5 (hts0 (.instantiable RX5 2) (List.mem_of_getElem? (i := 475) (by decide +kernel)))
  obtain ⟨c6, iS6, hKn6⟩ := u_known (C := RX6) (T := TX6) (N := 8) (n := 8) hts0 inX6 (hts0 (.instantiable RX6 8) (List.mem_of_getElem? (i := 260) (by decide +kernel)))
  obtain ⟨c7, iS7, hKn7⟩ := u_known (C := RX7) (T := TX7) (N := 3) (n := 3) hts0 inX7 (hts0 (.instantiable RX7 3) (List.mem_of_getElem? (i := 93) (by decide +kernel)))
  obtain ⟨c8, iS8, hKn8⟩ := u_known (C := RX8) (T := TX8) (N := 12) (n := 12) hts0 inX8 (hts0 (.instantiable RX8 12) (List.mem_of_getElem? (i := 408) (by decide +kernel)))
  obtain ⟨c9, iS9, hKn9⟩ := u_known (C := RX9) (T := TX9) (N := 1) (n := 1) hts0 inX9 (hts0 (.instantiable RX9 1) (List.mem_of_getElem? (i := 111) (by decide +kernel)))
  obtain ⟨c10, iS10, hKn10⟩ := u_known (C := RX10) (T := TX10) (N := 13) (n := 13) hts0 inX10 (hts0 (.instantiable RX10 13) (List.mem_of_getElem? (i := 46) (by decide +kernel)))
  obtain ⟨c11, iS11, hKn11⟩ := u_known (C := RX11) (T := TX11) (N := 39) (n := 39) hts0 inX11 (hts0 (.instantiable RX11 39) (List.mem_of_getElem? (i := 660) (by decide +kernel)))
  obtain ⟨dC, dI, hKc⟩ : ∃ (dC : Nat → ClassId) (dI : Nat → Nat → Nat), ∀ (k : Nat) (q : vw_C), vwCl[k]? = some q → u_Kn s q.1 q.2.1 q.2.2 (dC k) (dI k) := by
    refine ⟨fun k => if k = 0 then c0 else if k = 1 then c1 else if k = 2 then c2 else if k = 3 then c3 else if k = 4 then c4 else if k = 5 then c5 else if k = 6 then c6 else if k = 7 then c7 else if k = 8 then c8 else if k = 9 then c9 else if k = 10 then c10 else c11, fun k => if k = 0 then iS0 else if k = 1 then iS1 else if k = 2 then iS2 else if k = 3 then iS3 else if k = 4 then iS4 else if k = 5 then iS5 else if k = 6 then iS6 else if k = 7 then iS7 else if k = 8 then iS8 else if k = 9 then iS9 else if k = 10 then iS10 else iS11, ?_⟩
    intro k q hq
    match k, hq with
    | 0, hq => cases hq; exact hKn0
    | 1, hq => cases hq; exact hKn1
    | 2, hq => cases hq; exact hKn2
    | 3, hq => cases hq; exact hKn3
    | 4, hq => cases hq; exact hKn4
    | 5, hq => cases hq; exact hKn5
    | 6, hq => cases hq; exact hKn6
    | 7, hq => cases hq; exact hKn7
    | 8, hq => cases hq; exact hKn8
    | 9, hq => cases hq; exact hKn9
    | 10, hq => cases hq; exact hKn10
    | 11, hq => cases hq; exact hKn11
    | k + 12, hq => simp [vwCl] at hq
  have hN : nst s := ⟨⟨va_Nw.of rfl (hts0 (.methodLinkNest RX3 34 yX10_isWithin RX10) (List.mem_of_getElem? (i := 168) (by decide +kernel))), va_Nw.of rfl (hts0 (.methodLinkNest RX7 19 yX10_isWithin RX10) (List.mem_of_getElem? (i := 224) (by decide +kernel))), va_Nw.of rfl (hts0 (.methodLinkNest RX10 44 yX7_init RX10) (List.mem_of_getElem? (i := 94) (by decide +kernel))), va_Nw.of rfl (hts0 (.methodLinkNest RX10 51 yX9_init RX10) (List.mem_of_getElem? (i := 112) (by decide +kernel)))⟩, ⟨va_AO.of (hts0 (.arrayOver (.object RX6)) (List.mem_of_getElem? (i := 84) (by decide +kernel))), va_AO.of (hts0 (.arrayOver (.object RX2)) (List.mem_of_getElem? (i := 86) (by decide +kernel))), va_AO.of (hts0 (.arrayOver (.object RX8)) (List.mem_of_getElem? (i := 88) (by decide +kernel))), va_AO.of (hts0 (.arrayOver (.object RX5)) (List.mem_of_getElem? (i := 90) (by decide +kernel))), va_AO.of (hts0 (.arrayOver (.object RX7)) (List.mem_of_getElem? (i := 92) (by decide +kernel)))⟩, va_Nw.of rfl (hts0 (.castable RX1 RX2) (List.mem_of_getElem? (i := 1028) (by decide +kernel))), va_Nw.of rfl (hts0 (.castable RX4 RX2) (List.mem_of_getElem? (i := 1027) (by decide +kernel)))⟩
  have hS : va_S (fun q : Nat => s.heap.size ≤ q) s.heap s.heap [] := va_S.rf
  have hK : va_K (dC, dI) vwCl [] s := ⟨hKc, fun k q h => by simp at h⟩
  have hP : va_P (dC, dI) vwCl [] s.heap := fun k q h => by simp at h
  have hD : va_D (fun q : Nat => s.heap.size ≤ q) [] := ⟨fun i j p q h => by simp at h, fun k q h => by simp at h⟩
  have hts : ∀ w ∈ wsL_law, w.before #[Value.ref b] s = true := fun w h => hts0 w (wsL_law_in w h)
  have hiX10 := inlX10
  have hiX11 := inlX11
  have hl := lv_entry ([.ref b]) (n := 4) (Nat.le_of_ble_eq_true rfl)
  rw [lg_entry_eq]
  generalize (lg_sl ([.ref b]) ++ List.replicate (4 - (lg_sl ([.ref b])).length) Slot.unset).toArray = ls at hl ⊢
  have hl : lv_has ls 4 [(0, .ref b)] := hl
  refine va_new (ci := 10) (fs := [.null, .null, .null, .null, .null, .null, .null, .int 0, .int 0, .int 0, .int 0, .null, .int 0]) (C := RX10) (T := TX10) (N := 13) hx hb hts hiX10 tyX10 tyX10_ok hown (hts (.classLink RL 7 RX10) (by decide +kernel)) (hts (.instantiable RX10 13) (by decide +kernel)) (hts (.initialized RX10) (by decide +kernel)) hK hP hD hS hA rfl (fun j hj => by rcases (show j = 0 ∨ j = 1 ∨ j = 2 ∨ j = 3 ∨ j = 4 ∨ j = 5 ∨ j = 6 ∨ j = 7 ∨ j = 8 ∨ j = 9 ∨ j = 10 ∨ j = 11 ∨ j = 12 by omega) with rfl | rfl | rfl | rfl | rfl | rfl | rfl | rfl | rfl | rfl | rfl | rfl | rfl <;> rfl) (Nat.le_of_ble_eq_true rfl) (Nat.le_of_ble_eq_true rfl) dL_law_0 (fun qx H hP hD hS => ?_)
  have hP : va_P (dC, dI) vwCl [(qx, .inr (10, [.null, .null, .null, .null, .null, .null, .null, .int 0, .int 0, .int 0, .int 0, .null, .int 0]))] H := hP
  have hD : va_D _ [(qx, .inr (10, [.null, .null, .null, .null, .null, .null, .null, .int 0, .int 0, .int 0, .int 0, .null, .int 0]))] := hD
  refine lv_dup hx hb dL_law_3 rfl ?_
  have hPc := hP.sub (ws' := [(qx, .inr (10, [.null, .null, .null, .null, .null, .null, .null, .int 0, .int 0, .int 0, .int 0, .null, .int 0]))]) [0] rfl
  have hDc := hD.sub (ws' := [(qx, .inr (10, [.null, .null, .null, .null, .null, .null, .null, .int 0, .int 0, .int 0, .int 0, .null, .int 0]))]) [0] (by decide) rfl
  have hKc := hK.sub (tys' := []) [] rfl
  have hFc := va_free (wc := [(qx, .inr (10, [.null, .null, .null, .null, .null, .null, .null, .int 0, .int 0, .int 0, .int 0, .null, .int 0]))]) hD hS hA [0] rfl
  refine va_callv (va_runI (As := []) (rest := [.ref qx]) ⟨hx, hb, hml, hown, hts⟩ (c_X10_init l dC dI  _ qx ) (cwI 0 hts gL_law_X10_init rfl rfl rfl (hts (.initialized RX10) (by decide +kernel)) (hts (.methodLink RL 9 yX10_init) (by decide +kernel)) (hts (.instanceMethod yX10_init) (by decide +kernel)) rfl (by decide +kernel) ⟨Nat.le_of_ble_eq_true rfl, Nat.le_of_ble_eq_true rfl⟩) (pw_preS hPc hKc hDc hN) rfl rfl hl.1 rfl (lv_room (Nat.le_of_ble_eq_true rfl)) dL_law_4 ⟨Nat.le_of_ble_eq_true rfl, Nat.le_of_ble_eq_true rfl⟩) hS (fun q _ h => hFc q h) hFc (fun u t H1 locs ht hvm hw hB hz1 hk1 hS => ?_)
  obtain ⟨cI_2, cP_3, cG_4, cS_5, ql_6, lw_7, hg_8, tl_9, th_10, pa_11, ga_12, ta_13, pc_14, sh_15, t0_16, t1_17, t2_18, t3_19, d0_20, d1_21, d2_22, d3_23, tr_24, hP1, hK1, hD1⟩ := hB
  rw [ht] at hP1
  have hK1 := va_K.moved hvm.symm hK1
  have hK := hK.app hK1
  have hK : va_K (dC, dI) vwCl [(cI_2, .int), (cP_3, .object RX6), (cG_4, .object RX2), (cS_5, .object RX7)] s := hK
  obtain ⟨hP, hD⟩ := va_join (wr := []) (w1 := [(qx, .inr (10, [.ref ql_6, .ref pa_11, .ref ga_12, .ref ta_13, .ref pc_14, .ref sh_15, .ref tr_24, .int 0, .int 0, .int 0, .int 0, .null, .int 0])), (ql_6, .inr (3, [.ref lw_7, .ref hg_8, .ref tl_9, .ref th_10, .int 1000])), (lw_7, .inl (cI_2, 48, .inl (fun _ => 0))), (hg_8, .inl (cI_2, 48, .inl (fun _ => 1000))), (tl_9, .inl (cI_2, 48, .inl (fun _ => 0))), (th_10, .inl (cI_2, 48, .inl (fun _ => 0))), (pa_11, .inl (cP_3, 12, .inr (.inr (.inr (.inr (fun _ => none)))))), (ga_12, .inl (cG_4, 8, .inr (.inr (.inr (.inr (fun _ => none)))))), (sh_15, .inl (cS_5, 4, .inr (.inr (.inr (.inr (sh4 t0_16 t1_17 t2_18 t3_19)))))), (t0_16, .inr (7, [.ref d0_20, .int (-1), .int 0])), (t1_17, .inr (7, [.ref d1_21, .int (-1), .int 0])), (t2_18, .inr (7, [.ref d2_22, .int (-1), .int 0])), (t3_19, .inr (7, [.ref d3_23, .int (-1), .int 0])), (d0_20, .inl (cI_2, 48, .inl (fun _ => 0))), (d1_21, .inl (cI_2, 48, .inl (fun _ => 0))), (d2_22, .inl (cI_2, 48, .inl (fun _ => 0))), (d3_23, .inl (cI_2, 48, .inl (fun _ => 0))), (tr_24, .inr (9, [.int 0]))]) hP hD [0] [] rfl rfl (by decide) (by decide) hk1 hFc hP1 hD1
  generalize H1 = H at hP hS ⊢
  have hP : va_P (dC, dI) vwCl [(qx, .inr (10, [.ref ql_6, .ref pa_11, .ref ga_12, .ref ta_13, .ref pc_14, .ref sh_15, .ref tr_24, .int 0, .int 0, .int 0, .int 0, .null, .int 0])), (ql_6, .inr (3, [.ref lw_7, .ref hg_8, .ref tl_9, .ref th_10, .int 1000])), (lw_7, .inl (cI_2, 48, .inl (fun _ => 0))), (hg_8, .inl (cI_2, 48, .inl (fun _ => 1000))), (tl_9, .inl (cI_2, 48, .inl (fun _ => 0))), (th_10, .inl (cI_2, 48, .inl (fun _ => 0))), (pa_11, .inl (cP_3, 12, .inr (.inr (.inr (.inr (fun _ => none)))))), (ga_12, .inl (cG_4, 8, .inr (.inr (.inr (.inr (fun _ => none)))))), (sh_15, .inl (cS_5, 4, .inr (.inr (.inr (.inr (sh4 t0_16 t1_17 t2_18 t3_19)))))), (t0_16, .inr (7, [.ref d0_20, .int (-1), .int 0])), (t1_17, .inr (7, [.ref d1_21, .int (-1), .int 0])), (t2_18, .inr (7, [.ref d2_22, .int (-1), .int 0])), (t3_19, .inr (7, [.ref d3_23, .int (-1), .int 0])), (d0_20, .inl (cI_2, 48, .inl (fun _ => 0))), (d1_21, .inl (cI_2, 48, .inl (fun _ => 0))), (d2_22, .inl (cI_2, 48, .inl (fun _ => 0))), (d3_23, .inl (cI_2, 48, .inl (fun _ => 0))), (tr_24, .inr (9, [.int 0]))] H := hP
  have hD : va_D _ [(qx, .inr (10, [.ref ql_6, .ref pa_11, .ref ga_12, .ref ta_13, .ref pc_14, .ref sh_15, .ref tr_24, .int 0, .int 0, .int 0, .int 0, .null, .int 0])), (ql_6, .inr (3, [.ref lw_7, .ref hg_8, .ref tl_9, .ref th_10, .int 1000])), (lw_7, .inl (cI_2, 48, .inl (fun _ => 0))), (hg_8, .inl (cI_2, 48, .inl (fun _ => 1000))), (tl_9, .inl (cI_2, 48, .inl (fun _ => 0))), (th_10, .inl (cI_2, 48, .inl (fun _ => 0))), (pa_11, .inl (cP_3, 12, .inr (.inr (.inr (.inr (fun _ => none)))))), (ga_12, .inl (cG_4, 8, .inr (.inr (.inr (.inr (fun _ => none)))))), (sh_15, .inl (cS_5, 4, .inr (.inr (.inr (.inr (sh4 t0_16 t1_17 t2_18 t3_19)))))), (t0_16, .inr (7, [.ref d0_20, .int (-1), .int 0])), (t1_17, .inr (7, [.ref d1_21, .int (-1), .int 0])), (t2_18, .inr (7, [.ref d2_22, .int (-1), .int 0])), (t3_19, .inr (7, [.ref d3_23, .int (-1), .int 0])), (d0_20, .inl (cI_2, 48, .inl (fun _ => 0))), (d1_21, .inl (cI_2, 48, .inl (fun _ => 0))), (d2_22, .inl (cI_2, 48, .inl (fun _ => 0))), (d3_23, .inl (cI_2, 48, .inl (fun _ => 0))), (tr_24, .inr (9, [.int 0]))] := hD
  refine lv_astore_n (lv' := [(1, .ref qx), (0, .ref b)]) hx hb dL_law_7 rfl hl (by decide) rfl (fun ls hl => ?_)
  refine va_new (ci := 11) (fs := [.int 0, .int 0, .null, .null, .null, .null, .int 0, .null, .null, .null, .null, .int 0, .null, .null, .null, .null, .null, .int 0, .null, .null, .int 0, .int 0, .int 0, .int 0, .int 0, .null, .null, .null, .null, .null, .null, .null, .null, .null, .int 0, .null, .null, .null, .int 0]) (C := RX11) (T := TX11) (N := 39) hx hb hts hiX11 tyX11 tyX11_ok hown (hts (.classLink RL 10 RX11) (by decide +kernel)) (hts (.instantiable RX11 39) (by decide +kernel)) (hts (.initialized RX11) (by decide +kernel)) hK hP hD hS hA rfl (fun j hj => by rcases (show j = 0 ∨ j = 1 ∨ j = 2 ∨ j = 3 ∨ j = 4 ∨ j = 5 ∨ j = 6 ∨ j = 7 ∨ j = 8 ∨ j = 9 ∨ j = 10 ∨ j = 11 ∨ j = 12 ∨ j = 13 ∨ j = 14 ∨ j = 15 ∨ j = 16 ∨ j = 17 ∨ j = 18 ∨ j = 19 ∨ j = 20 ∨ j = 21 ∨ j = 22 ∨ j = 23 ∨ j = 24 ∨ j = 25 ∨ j = 26 ∨ j = 27 ∨ j = 28 ∨ j = 29 ∨ j = 30 ∨ j = 31 ∨ j = 32 ∨ j = 33 ∨ j = 34 ∨ j = 35 ∨ j = 36 ∨ j = 37 ∨ j = 38 by omega) with rfl | rfl | rfl | rfl | rfl | rfl | rfl | rfl | rfl | rfl | rfl | rfl | rfl | rfl | rfl | rfl | rfl | rfl | rfl | rfl | rfl | rfl | rfl | rfl | rfl | rfl | rfl | rfl | rfl | rfl | rfl | rfl | rfl | rfl | rfl | rfl | rfl | rfl | rfl <;> rfl) (Nat.le_of_ble_eq_true rfl) (Nat.le_of_ble_eq_true rfl) dL_law_8 (fun qm H hP hD hS => ?_)
  have hP : va_P (dC, dI) vwCl [(qx, .inr (10, [.ref ql_6, .ref pa_11, .ref ga_12, .ref ta_13, .ref pc_14, .ref sh_15, .ref tr_24, .int 0, .int 0, .int 0, .int 0, .null, .int 0])), (ql_6, .inr (3, [.ref lw_7, .ref hg_8, .ref tl_9, .ref th_10, .int 1000])), (lw_7, .inl (cI_2, 48, .inl (fun _ => 0))), (hg_8, .inl (cI_2, 48, .inl (fun _ => 1000))), (tl_9, .inl (cI_2, 48, .inl (fun _ => 0))), (th_10, .inl (cI_2, 48, .inl (fun _ => 0))), (pa_11, .inl (cP_3, 12, .inr (.inr (.inr (.inr (fun _ => none)))))), (ga_12, .inl (cG_4, 8, .inr (.inr (.inr (.inr (fun _ => none)))))), (sh_15, .inl (cS_5, 4, .inr (.inr (.inr (.inr (sh4 t0_16 t1_17 t2_18 t3_19)))))), (t0_16, .inr (7, [.ref d0_20, .int (-1), .int 0])), (t1_17, .inr (7, [.ref d1_21, .int (-1), .int 0])), (t2_18, .inr (7, [.ref d2_22, .int (-1), .int 0])), (t3_19, .inr (7, [.ref d3_23, .int (-1), .int 0])), (d0_20, .inl (cI_2, 48, .inl (fun _ => 0))), (d1_21, .inl (cI_2, 48, .inl (fun _ => 0))), (d2_22, .inl (cI_2, 48, .inl (fun _ => 0))), (d3_23, .inl (cI_2, 48, .inl (fun _ => 0))), (tr_24, .inr (9, [.int 0])), (qm, .inr (11, [.int 0, .int 0, .null, .null, .null, .null, .int 0, .null, .null, .null, .null, .int 0, .null, .null, .null, .null, .null, .int 0, .null, .null, .int 0, .int 0, .int 0, .int 0, .int 0, .null, .null, .null, .null, .null, .null, .null, .null, .null, .int 0, .null, .null, .null, .int 0]))] H := hP
  have hD : va_D _ [(qx, .inr (10, [.ref ql_6, .ref pa_11, .ref ga_12, .ref ta_13, .ref pc_14, .ref sh_15, .ref tr_24, .int 0, .int 0, .int 0, .int 0, .null, .int 0])), (ql_6, .inr (3, [.ref lw_7, .ref hg_8, .ref tl_9, .ref th_10, .int 1000])), (lw_7, .inl (cI_2, 48, .inl (fun _ => 0))), (hg_8, .inl (cI_2, 48, .inl (fun _ => 1000))), (tl_9, .inl (cI_2, 48, .inl (fun _ => 0))), (th_10, .inl (cI_2, 48, .inl (fun _ => 0))), (pa_11, .inl (cP_3, 12, .inr (.inr (.inr (.inr (fun _ => none)))))), (ga_12, .inl (cG_4, 8, .inr (.inr (.inr (.inr (fun _ => none)))))), (sh_15, .inl (cS_5, 4, .inr (.inr (.inr (.inr (sh4 t0_16 t1_17 t2_18 t3_19)))))), (t0_16, .inr (7, [.ref d0_20, .int (-1), .int 0])), (t1_17, .inr (7, [.ref d1_21, .int (-1), .int 0])), (t2_18, .inr (7, [.ref d2_22, .int (-1), .int 0])), (t3_19, .inr (7, [.ref d3_23, .int (-1), .int 0])), (d0_20, .inl (cI_2, 48, .inl (fun _ => 0))), (d1_21, .inl (cI_2, 48, .inl (fun _ => 0))), (d2_22, .inl (cI_2, 48, .inl (fun _ => 0))), (d3_23, .inl (cI_2, 48, .inl (fun _ => 0))), (tr_24, .inr (9, [.int 0])), (qm, .inr (11, [.int 0, .int 0, .null, .null, .null, .null, .int 0, .null, .null, .null, .null, .int 0, .null, .null, .null, .null, .null, .int 0, .null, .null, .int 0, .int 0, .int 0, .int 0, .int 0, .null, .null, .null, .null, .null, .null, .null, .null, .null, .int 0, .null, .null, .null, .int 0]))] := hD
  refine lv_dup hx hb dL_law_11 rfl ?_
  have hPc := hP.sub (ws' := [(qm, .inr (11, [.int 0, .int 0, .null, .null, .null, .null, .int 0, .null, .null, .null, .null, .int 0, .null, .null, .null, .null, .null, .int 0, .null, .null, .int 0, .int 0, .int 0, .int 0, .int 0, .null, .null, .null, .null, .null, .null, .null, .null, .null, .int 0, .null, .null, .null, .int 0]))]) [18] rfl
  have hDc := hD.sub (ws' := [(qm, .inr (11, [.int 0, .int 0, .null, .null, .null, .null, .int 0, .null, .null, .null, .null, .int 0, .null, .null, .null, .null, .null, .int 0, .null, .null, .int 0, .int 0, .int 0, .int 0, .int 0, .null, .null, .null, .null, .null, .null, .null, .null, .null, .int 0, .null, .null, .null, .int 0]))]) [18] (by decide) rfl
  have hKc := hK.sub (tys' := []) [] rfl
  have hFc := va_free (wc := [(qm, .inr (11, [.int 0, .int 0, .null, .null, .null, .null, .int 0, .null, .null, .null, .null, .int 0, .null, .null, .null, .null, .null, .int 0, .null, .null, .int 0, .int 0, .int 0, .int 0, .int 0, .null, .null, .null, .null, .null, .null, .null, .null, .null, .int 0, .null, .null, .null, .int 0]))]) hD hS hA [18] rfl
  refine va_callv (va_runI (As := []) (rest := [.ref qm]) ⟨hx, hb, hml, hown, hts⟩ (c_X11_init l dC dI  _ qm ) (cwI 0 hts gL_law_X11_init rfl rfl rfl (hts (.initialized RX11) (by decide +kernel)) (hts (.methodLink RL 12 yX11_init) (by decide +kernel)) (hts (.instanceMethod yX11_init) (by decide +kernel)) rfl (by decide +kernel) ⟨Nat.le_of_ble_eq_true rfl, Nat.le_of_ble_eq_true rfl⟩) (pw_preS hPc hKc hDc hN) rfl rfl hl.1 rfl (lv_room (Nat.le_of_ble_eq_true rfl)) dL_law_12 ⟨Nat.le_of_ble_eq_true rfl, Nat.le_of_ble_eq_true rfl⟩) hS (fun q _ h => hFc q h) hFc (fun u t H1 locs ht hvm hw hB hz1 hk1 hS => ?_)
  obtain ⟨cI_26, m_low_27, m_high_28, m_newLow_29, m_newHigh_30, m_sheetSize_31, m_sheetLane_32, m_sheet_33, m_hands_34, m_fromX_35, m_fromY_36, m_toX_37, m_toY_38, m_tonsOf_39, m_sort_40, m_debt_41, m_gangOf_42, m_pitchOf_43, m_shareOf_44, m_isSettled_45, m_least_46, m_greatest_47, m_costs_48, m_ahead_49, m_pay_50, m_parcelTake_51, m_parcelTons_52, m_parcelGood_53, hP1, hK1, hD1⟩ := hB
  rw [ht] at hP1
  have hK1 := va_K.moved hvm.symm hK1
  have hK := hK.app hK1
  have hK : va_K (dC, dI) vwCl [(cI_2, .int), (cP_3, .object RX6), (cG_4, .object RX2), (cS_5, .object RX7), (cI_26, .int)] s := hK
  obtain ⟨hP, hD⟩ := va_join (wr := [(qx, .inr (10, [.ref ql_6, .ref pa_11, .ref ga_12, .ref ta_13, .ref pc_14, .ref sh_15, .ref tr_24, .int 0, .int 0, .int 0, .int 0, .null, .int 0])), (ql_6, .inr (3, [.ref lw_7, .ref hg_8, .ref tl_9, .ref th_10, .int 1000])), (lw_7, .inl (cI_2, 48, .inl (fun _ => 0))), (hg_8, .inl (cI_2, 48, .inl (fun _ => 1000))), (tl_9, .inl (cI_2, 48, .inl (fun _ => 0))), (th_10, .inl (cI_2, 48, .inl (fun _ => 0))), (pa_11, .inl (cP_3, 12, .inr (.inr (.inr (.inr (fun _ => none)))))), (ga_12, .inl (cG_4, 8, .inr (.inr (.inr (.inr (fun _ => none)))))), (sh_15, .inl (cS_5, 4, .inr (.inr (.inr (.inr (sh4 t0_16 t1_17 t2_18 t3_19)))))), (t0_16, .inr (7, [.ref d0_20, .int (-1), .int 0])), (t1_17, .inr (7, [.ref d1_21, .int (-1), .int 0])), (t2_18, .inr (7, [.ref d2_22, .int (-1), .int 0])), (t3_19, .inr (7, [.ref d3_23, .int (-1), .int 0])), (d0_20, .inl (cI_2, 48, .inl (fun _ => 0))), (d1_21, .inl (cI_2, 48, .inl (fun _ => 0))), (d2_22, .inl (cI_2, 48, .inl (fun _ => 0))), (d3_23, .inl (cI_2, 48, .inl (fun _ => 0))), (tr_24, .inr (9, [.int 0]))]) (w1 := [(qm, .inr (11, [.int 0, .int 1000, .ref m_low_27, .ref m_high_28, .ref m_newLow_29, .ref m_newHigh_30, .int 0, .ref m_sheetSize_31, .ref m_sheetLane_32, .ref m_sheet_33, .ref m_hands_34, .int 0, .ref m_fromX_35, .ref m_fromY_36, .ref m_toX_37, .ref m_toY_38, .ref m_tonsOf_39, .int 0, .ref m_sort_40, .ref m_debt_41, .int (-9), .int 0, .int 0, .int 0, .int 0, .ref m_gangOf_42, .ref m_pitchOf_43, .ref m_shareOf_44, .ref m_isSettled_45, .ref m_least_46, .ref m_greatest_47, .ref m_costs_48, .ref m_ahead_49, .ref m_pay_50, .int 0, .ref m_parcelTake_51, .ref m_parcelTons_52, .ref m_parcelGood_53, .int 0])), (m_low_27, .inl (cI_26, 48, .inl (fun _ => 0))), (m_high_28, .inl (cI_26, 48, .inl (fun _ => 1000))), (m_newLow_29, .inl (cI_26, 48, .inl (fun _ => 0))), (m_newHigh_30, .inl (cI_26, 48, .inl (fun _ => 0))), (m_sheetSize_31, .inl (cI_26, 4, .inl (fun _ => (-1)))), (m_sheetLane_32, .inl (cI_26, 4, .inl (fun _ => 0))), (m_sheet_33, .inl (cI_26, 192, .inl (fun _ => 0))), (m_fromX_35, .inl (cI_26, 12, .inl (fun _ => 0))), (m_fromY_36, .inl (cI_26, 12, .inl (fun _ => 0))), (m_toX_37, .inl (cI_26, 12, .inl (fun _ => 0))), (m_toY_38, .inl (cI_26, 12, .inl (fun _ => 0))), (m_tonsOf_39, .inl (cI_26, 12, .inl (fun _ => 0))), (m_sort_40, .inl (cI_26, 8, .inl (fun _ => 0)))]) hP hD [18] [0, 1, 2, 3, 4, 5, 6, 7, 8, 9, 10, 11, 12, 13, 14, 15, 16, 17] rfl rfl (by decide) (by decide) hk1 hFc hP1 hD1
  generalize H1 = H at hP hS ⊢
  have hP : va_P (dC, dI) vwCl [(qx, .inr (10, [.ref ql_6, .ref pa_11, .ref ga_12, .ref ta_13, .ref pc_14, .ref sh_15, .ref tr_24, .int 0, .int 0, .int 0, .int 0, .null, .int 0])), (ql_6, .inr (3, [.ref lw_7, .ref hg_8, .ref tl_9, .ref th_10, .int 1000])), (lw_7, .inl (cI_2, 48, .inl (fun _ => 0))), (hg_8, .inl (cI_2, 48, .inl (fun _ => 1000))), (tl_9, .inl (cI_2, 48, .inl (fun _ => 0))), (th_10, .inl (cI_2, 48, .inl (fun _ => 0))), (pa_11, .inl (cP_3, 12, .inr (.inr (.inr (.inr (fun _ => none)))))), (ga_12, .inl (cG_4, 8, .inr (.inr (.inr (.inr (fun _ => none)))))), (sh_15, .inl (cS_5, 4, .inr (.inr (.inr (.inr (sh4 t0_16 t1_17 t2_18 t3_19)))))), (t0_16, .inr (7, [.ref d0_20, .int (-1), .int 0])), (t1_17, .inr (7, [.ref d1_21, .int (-1), .int 0])), (t2_18, .inr (7, [.ref d2_22, .int (-1), .int 0])), (t3_19, .inr (7, [.ref d3_23, .int (-1), .int 0])), (d0_20, .inl (cI_2, 48, .inl (fun _ => 0))), (d1_21, .inl (cI_2, 48, .inl (fun _ => 0))), (d2_22, .inl (cI_2, 48, .inl (fun _ => 0))), (d3_23, .inl (cI_2, 48, .inl (fun _ => 0))), (tr_24, .inr (9, [.int 0])), (qm, .inr (11, [.int 0, .int 1000, .ref m_low_27, .ref m_high_28, .ref m_newLow_29, .ref m_newHigh_30, .int 0, .ref m_sheetSize_31, .ref m_sheetLane_32, .ref m_sheet_33, .ref m_hands_34, .int 0, .ref m_fromX_35, .ref m_fromY_36, .ref m_toX_37, .ref m_toY_38, .ref m_tonsOf_39, .int 0, .ref m_sort_40, .ref m_debt_41, .int (-9), .int 0, .int 0, .int 0, .int 0, .ref m_gangOf_42, .ref m_pitchOf_43, .ref m_shareOf_44, .ref m_isSettled_45, .ref m_least_46, .ref m_greatest_47, .ref m_costs_48, .ref m_ahead_49, .ref m_pay_50, .int 0, .ref m_parcelTake_51, .ref m_parcelTons_52, .ref m_parcelGood_53, .int 0])), (m_low_27, .inl (cI_26, 48, .inl (fun _ => 0))), (m_high_28, .inl (cI_26, 48, .inl (fun _ => 1000))), (m_newLow_29, .inl (cI_26, 48, .inl (fun _ => 0))), (m_newHigh_30, .inl (cI_26, 48, .inl (fun _ => 0))), (m_sheetSize_31, .inl (cI_26, 4, .inl (fun _ => (-1)))), (m_sheetLane_32, .inl (cI_26, 4, .inl (fun _ => 0))), (m_sheet_33, .inl (cI_26, 192, .inl (fun _ => 0))), (m_fromX_35, .inl (cI_26, 12, .inl (fun _ => 0))), (m_fromY_36, .inl (cI_26, 12, .inl (fun _ => 0))), (m_toX_37, .inl (cI_26, 12, .inl (fun _ => 0))), (m_toY_38, .inl (cI_26, 12, .inl (fun _ => 0))), (m_tonsOf_39, .inl (cI_26, 12, .inl (fun _ => 0))), (m_sort_40, .inl (cI_26, 8, .inl (fun _ => 0)))] H := hP
  have hD : va_D _ [(qx, .inr (10, [.ref ql_6, .ref pa_11, .ref ga_12, .ref ta_13, .ref pc_14, .ref sh_15, .ref tr_24, .int 0, .int 0, .int 0, .int 0, .null, .int 0])), (ql_6, .inr (3, [.ref lw_7, .ref hg_8, .ref tl_9, .ref th_10, .int 1000])), (lw_7, .inl (cI_2, 48, .inl (fun _ => 0))), (hg_8, .inl (cI_2, 48, .inl (fun _ => 1000))), (tl_9, .inl (cI_2, 48, .inl (fun _ => 0))), (th_10, .inl (cI_2, 48, .inl (fun _ => 0))), (pa_11, .inl (cP_3, 12, .inr (.inr (.inr (.inr (fun _ => none)))))), (ga_12, .inl (cG_4, 8, .inr (.inr (.inr (.inr (fun _ => none)))))), (sh_15, .inl (cS_5, 4, .inr (.inr (.inr (.inr (sh4 t0_16 t1_17 t2_18 t3_19)))))), (t0_16, .inr (7, [.ref d0_20, .int (-1), .int 0])), (t1_17, .inr (7, [.ref d1_21, .int (-1), .int 0])), (t2_18, .inr (7, [.ref d2_22, .int (-1), .int 0])), (t3_19, .inr (7, [.ref d3_23, .int (-1), .int 0])), (d0_20, .inl (cI_2, 48, .inl (fun _ => 0))), (d1_21, .inl (cI_2, 48, .inl (fun _ => 0))), (d2_22, .inl (cI_2, 48, .inl (fun _ => 0))), (d3_23, .inl (cI_2, 48, .inl (fun _ => 0))), (tr_24, .inr (9, [.int 0])), (qm, .inr (11, [.int 0, .int 1000, .ref m_low_27, .ref m_high_28, .ref m_newLow_29, .ref m_newHigh_30, .int 0, .ref m_sheetSize_31, .ref m_sheetLane_32, .ref m_sheet_33, .ref m_hands_34, .int 0, .ref m_fromX_35, .ref m_fromY_36, .ref m_toX_37, .ref m_toY_38, .ref m_tonsOf_39, .int 0, .ref m_sort_40, .ref m_debt_41, .int (-9), .int 0, .int 0, .int 0, .int 0, .ref m_gangOf_42, .ref m_pitchOf_43, .ref m_shareOf_44, .ref m_isSettled_45, .ref m_least_46, .ref m_greatest_47, .ref m_costs_48, .ref m_ahead_49, .ref m_pay_50, .int 0, .ref m_parcelTake_51, .ref m_parcelTons_52, .ref m_parcelGood_53, .int 0])), (m_low_27, .inl (cI_26, 48, .inl (fun _ => 0))), (m_high_28, .inl (cI_26, 48, .inl (fun _ => 1000))), (m_newLow_29, .inl (cI_26, 48, .inl (fun _ => 0))), (m_newHigh_30, .inl (cI_26, 48, .inl (fun _ => 0))), (m_sheetSize_31, .inl (cI_26, 4, .inl (fun _ => (-1)))), (m_sheetLane_32, .inl (cI_26, 4, .inl (fun _ => 0))), (m_sheet_33, .inl (cI_26, 192, .inl (fun _ => 0))), (m_fromX_35, .inl (cI_26, 12, .inl (fun _ => 0))), (m_fromY_36, .inl (cI_26, 12, .inl (fun _ => 0))), (m_toX_37, .inl (cI_26, 12, .inl (fun _ => 0))), (m_toY_38, .inl (cI_26, 12, .inl (fun _ => 0))), (m_tonsOf_39, .inl (cI_26, 12, .inl (fun _ => 0))), (m_sort_40, .inl (cI_26, 8, .inl (fun _ => 0)))] := hD
  refine lv_astore_n (lv' := [(2, .ref qm), (1, .ref qx), (0, .ref b)]) hx hb dL_law_15 rfl hl (by decide) rfl (fun ls hl => ?_)
  refine lv_iconst (v := 0) hx hb dL_law_16 (by decide) ?_
  refine lv_istore_n (lv' := [(3, .int 0), (2, .ref qm), (1, .ref qx), (0, .ref b)]) hx hb dL_law_17 rfl hl (by decide) rfl (fun ls hl => ?_)
  by_cases hL6 : L = 6
  · subst hL6
    refine lv_iload_n hx hb dL_law_18 rfl (lv_at hl 0 rfl) ?_
    refine lv_aload_n hx hb dL_law_19 rfl (lv_at hl 3 rfl) ?_
    refine va_slen hx hb hX hbl hbA hS dL_law_20 ?_
    refine W.eq (g2 := F0 m 21 ls [.int 6, .int 0]) rfl ?_
    refine lv_bipush (v := 6) hx hb dL_law_21 (by decide) ?_
    refine lv_isub hx hb dL_law_23 ?_
    refine lv_topi (fun v54 ev54 => ?_)
    have ev54 : v54 = 0 := by rw [ev54]; decide
    subst ev54
    refine lv_icmp_gt (tgt := 1208) hx hb dL_law_24 (by decide) (fun c55 => ?_) (fun c55 => ?_)
    · exact absurd c55 (by decide)
    · skip
      refine lv_aload_n hx hb dL_law_27 rfl (lv_at hl 3 rfl) ?_
      refine lv_iload_n hx hb dL_law_28 rfl (lv_at hl 0 rfl) ?_
      refine va_sld hx hb hX hbl hbA hS (by unfold vp_in; decide) dL_law_29 ?_
      refine W.eq (g2 := F0 m 30 ls [.int (xs 0)]) rfl ?_
      refine lv_bipush (v := 31) hx hb dL_law_30 (by decide) ?_
      refine lv_iand hx hb dL_law_32 ?_
      refine lv_topi (fun kk ekk => ?_)
      by_cases hw56 : kk = 0
      · subst hw56
        refine lv_tableIn (off := 139) (tgt := 172) hx hb dL_law_33 (by decide) (by decide) rfl (by decide) ?_
        exact law_172 C0 hN hK hP hD hS hl
      by_cases hw57 : kk = 1
      · subst hw57
        refine lv_tableIn (off := 192) (tgt := 225) hx hb dL_law_33 (by decide) (by decide) rfl (by decide) ?_
        exact law_225 C0 hN hK hP hD hS hl
      by_cases hw58 : kk = 2
      · subst hw58
        refine lv_tableIn (off := 215) (tgt := 248) hx hb dL_law_33 (by decide) (by decide) rfl (by decide) ?_
        exact law_248 C0 hN hK hP hD hS hl
      by_cases hw59 : kk = 3
      · subst hw59
        refine lv_tableIn (off := 258) (tgt := 291) hx hb dL_law_33 (by decide) (by decide) rfl (by decide) ?_
        exact law_291 C0 hN hK hP hD hS hl
      by_cases hw60 : kk = 4
      · subst hw60
        refine lv_tableIn (off := 321) (tgt := 354) hx hb dL_law_33 (by decide) (by decide) rfl (by decide) ?_
        exact law_354 C0 hN hK hP hD hS hl
      by_cases hw61 : kk = 5
      · subst hw61
        refine lv_tableIn (off := 384) (tgt := 417) hx hb dL_law_33 (by decide) (by decide) rfl (by decide) ?_
        exact law_417 C0 hN hK hP hD hS hl
      by_cases hw62 : kk = 6
      · subst hw62
        refine lv_tableIn (off := 418) (tgt := 451) hx hb dL_law_33 (by decide) (by decide) rfl (by decide) ?_
        exact law_451 C0 hN hK hP hD hS hl
      by_cases hw63 : kk = 7
      · subst hw63
        refine lv_tableIn (off := 441) (tgt := 474) hx hb dL_law_33 (by decide) (by decide) rfl (by decide) ?_
        exact law_474 C0 hN hK hP hD hS hl
      by_cases hw64 : kk = 8
      · subst hw64
        refine lv_tableIn (off := 474) (tgt := 507) hx hb dL_law_33 (by decide) (by decide) rfl (by decide) ?_
        exact law_507 C0 hN hK hP hD hS hl
      by_cases hw65 : kk = 9
      · subst hw65
        refine lv_tableIn (off := 507) (tgt := 540) hx hb dL_law_33 (by decide) (by decide) rfl (by decide) ?_
        exact law_540 C0 hN hK hP hD hS hl
      by_cases hw66 : kk = 10
      · subst hw66
        refine lv_tableIn (off := 520) (tgt := 553) hx hb dL_law_33 (by decide) (by decide) rfl (by decide) ?_
        exact law_553 C0 hN hK hP hD hS hl
      by_cases hw67 : kk = 11
      · subst hw67
        refine lv_tableIn (off := 553) (tgt := 586) hx hb dL_law_33 (by decide) (by decide) rfl (by decide) ?_
        exact law_586 C0 hN hK hP hD hS hl
      by_cases hw68 : kk = 12
      · subst hw68
        refine lv_tableIn (off := 596) (tgt := 629) hx hb dL_law_33 (by decide) (by decide) rfl (by decide) ?_
        exact law_629 C0 hN hK hP hD hS hl
      by_cases hw69 : kk = 13
      · subst hw69
        refine lv_tableIn (off := 640) (tgt := 673) hx hb dL_law_33 (by decide) (by decide) rfl (by decide) ?_
        exact law_673 C0 hN hK hP hD hS hl
      by_cases hw70 : kk = 14
      · subst hw70
        refine lv_tableIn (off := 664) (tgt := 697) hx hb dL_law_33 (by decide) (by decide) rfl (by decide) ?_
        exact law_697 C0 hN hK hP hD hS hl
      by_cases hw71 : kk = 15
      · subst hw71
        refine lv_tableIn (off := 697) (tgt := 730) hx hb dL_law_33 (by decide) (by decide) rfl (by decide) ?_
        exact law_730 C0 hN hK hP hD hS hl
      by_cases hw72 : kk = 16
      · subst hw72
        refine lv_tableIn (off := 731) (tgt := 764) hx hb dL_law_33 (by decide) (by decide) rfl (by decide) ?_
        exact law_764 C0 hN hK hP hD hS hl
      by_cases hw73 : kk = 17
      · subst hw73
        refine lv_tableIn (off := 755) (tgt := 788) hx hb dL_law_33 (by decide) (by decide) rfl (by decide) ?_
        exact law_788 C0 hN hK hP hD hS hl
      by_cases hw74 : kk = 18
      · subst hw74
        refine lv_tableIn (off := 768) (tgt := 801) hx hb dL_law_33 (by decide) (by decide) rfl (by decide) ?_
        exact law_801 C0 hN hK hP hD hS hl
      by_cases hw75 : kk = 19
      · subst hw75
        refine lv_tableIn (off := 791) (tgt := 824) hx hb dL_law_33 (by decide) (by decide) rfl (by decide) ?_
        exact law_824 C0 hN hK hP hD hS hl
      by_cases hw76 : kk = 20
      · subst hw76
        refine lv_tableIn (off := 825) (tgt := 858) hx hb dL_law_33 (by decide) (by decide) rfl (by decide) ?_
        exact law_858 C0 hN hK hP hD hS hl
      by_cases hw77 : kk = 21
      · subst hw77
        refine lv_tableIn (off := 868) (tgt := 901) hx hb dL_law_33 (by decide) (by decide) rfl (by decide) ?_
        exact law_901 C0 hN hK hP hD hS hl
      by_cases hw78 : kk = 22
      · subst hw78
        refine lv_tableIn (off := 891) (tgt := 924) hx hb dL_law_33 (by decide) (by decide) rfl (by decide) ?_
        exact law_924 C0 hN hK hP hD hS hl
      by_cases hw79 : kk = 23
      · subst hw79
        refine lv_tableIn (off := 934) (tgt := 967) hx hb dL_law_33 (by decide) (by decide) rfl (by decide) ?_
        exact law_967 C0 hN hK hP hD hS hl
      by_cases hw80 : kk = 24
      · subst hw80
        refine lv_tableIn (off := 978) (tgt := 1011) hx hb dL_law_33 (by decide) (by decide) rfl (by decide) ?_
        exact law_1011 C0 hN hK hP hD hS hl
      by_cases hw81 : kk = 25
      · subst hw81
        refine lv_tableIn (off := 1041) (tgt := 1074) hx hb dL_law_33 (by decide) (by decide) rfl (by decide) ?_
        exact law_1074 C0 hN hK hP hD hS hl
      by_cases hw82 : kk = 26
      · subst hw82
        refine lv_tableIn (off := 1064) (tgt := 1097) hx hb dL_law_33 (by decide) (by decide) rfl (by decide) ?_
        exact law_1097 C0 hN hK hP hD hS hl
      by_cases hw83 : kk = 27
      · subst hw83
        refine lv_tableIn (off := 1087) (tgt := 1120) hx hb dL_law_33 (by decide) (by decide) rfl (by decide) ?_
        exact law_1120 C0 hN hK hP hD hS hl
      by_cases hw84 : kk = 28
      · subst hw84
        refine lv_tableIn (off := 1120) (tgt := 1153) hx hb dL_law_33 (by decide) (by decide) rfl (by decide) ?_
        exact law_1153 C0 hN hK hP hD hS hl
      by_cases hw85 : kk = 29
      · subst hw85
        refine lv_tableIn (off := 1133) (tgt := 1166) hx hb dL_law_33 (by decide) (by decide) rfl (by decide) ?_
        exact law_1166 C0 hN hK hP hD hS hl
      by_cases hw86 : kk = 30
      · subst hw86
        refine lv_tableIn (off := 1146) (tgt := 1179) hx hb dL_law_33 (by decide) (by decide) rfl (by decide) ?_
        exact law_1179 C0 hN hK hP hD hS hl
      refine lv_tableOut (tgt := 1202) hx hb dL_law_33 (tb_out31 hw56 hw57 hw58 hw59 hw60 hw61 hw62 hw63 hw64 hw65 hw66 hw67 hw68 hw69 hw70 hw71 hw72 hw73 hw74 hw75 hw76 hw77 hw78 hw79 hw80 hw81 hw82 hw83 hw84 hw85 hw86) (by decide) ?_
      refine lv_iinc (v := 6) (lv' := [(3, .int 6), (2, .ref qm), (1, .ref qx), (0, .ref b)]) hx hb dL_law_1202 hl (k := 0) rfl (by decide) (by decide) rfl (fun ls hl => ?_)
      refine lv_goto (tgt := 18) hx hb dL_law_1205 (by decide) ?_
      refine lv_iload_n hx hb dL_law_18 rfl (lv_at hl 0 rfl) ?_
      refine lv_aload_n hx hb dL_law_19 rfl (lv_at hl 3 rfl) ?_
      refine va_slen hx hb hX hbl hbA hS dL_law_20 ?_
      refine W.eq (g2 := F0 m 21 ls [.int 6, .int 6]) rfl ?_
      refine lv_bipush (v := 6) hx hb dL_law_21 (by decide) ?_
      refine lv_isub hx hb dL_law_23 ?_
      refine lv_topi (fun v87 ev87 => ?_)
      have ev87 : v87 = 0 := by rw [ev87]; decide
      subst ev87
      refine lv_icmp_gt (tgt := 1208) hx hb dL_law_24 (by decide) (fun c88 => ?_) (fun c88 => ?_)
      · skip
        refine lv_iconst (v := 1) hx hb dL_law_1208 (by decide) ?_
        refine va_forget (fun q hq => hS.2.2 q hq) ?_
        refine W.widen (k := 600000) (n := 7302250) (Nat.le_of_ble_eq_true rfl) (Nat.le_of_ble_eq_true rfl) ?_
        exact lw_ret hx hb hr hlocks dL_law_1209
      · exact absurd c88 (by decide)
  · skip
    refine lv_iload_n hx hb dL_law_18 rfl (lv_at hl 0 rfl) ?_
    refine lv_aload_n hx hb dL_law_19 rfl (lv_at hl 3 rfl) ?_
    refine va_slen hx hb hX hbl hbA hS dL_law_20 ?_
    refine W.eq (g2 := F0 m 21 ls [.int (nI L), .int 0]) rfl ?_
    refine lv_bipush (v := 6) hx hb dL_law_21 (by decide) ?_
    refine lv_isub hx hb dL_law_23 ?_
    refine lv_icmp_gt (tgt := 1208) hx hb dL_law_24 (by decide) (fun c54 => ?_) (fun c54 => ?_)
    · skip
      refine lv_iconst (v := 1) hx hb dL_law_1208 (by decide) ?_
      refine va_forget (fun q hq => hS.2.2 q hq) ?_
      refine W.widen (k := 600000) (n := 7302250) (Nat.le_of_ble_eq_true rfl) (Nat.le_of_ble_eq_true rfl) ?_
      exact lw_ret hx hb hr hlocks dL_law_1209
    · exact absurd c54 (not_not_intro (short_script hL hL6))
