set_option maxHeartbeats 4000000 in
set_option maxRecDepth 100000 in
theorem c_X10_newGang (l : Launch) (dC : Nat → ClassId) (dI : Nat → Nat → Nat)  (sz : Nat) (k : Int32) (n : Int32)  : Met l yX10_newGang wsX10_newGang ({ frames := 4, cells := 1, slots := 4, locals := 120 }) (pw (dC, dI) [] [] sz [.int k, .int n]) (va_Qr (fun (_ : Unit) => True) (fun _ ra t => ∃ (ci : Nat) (fs : List Value), (ci = 1 ∨ ci = 2 ∨ ci = 4) ∧ bw (dC, dI) [] (va_A [] sz) [(ra, .inr (ci, fs))] t) (va_A [] sz)) 1 4 (va_A [] sz) := by
  refine pw_met (cc := cX10_newGang) (maxL := 2) (ret := (some (.object "TributePitches$Gang"))) (by decide) rfl (Nat.le_of_ble_eq_true rfl) ?_
  intro p e s m below meth c0 hx hb hr hml hown hlocks hnm hts hP hK hD hN hsz hA hS ls hl
  subst hsz
  have hl : lv_has ls 2 [(0, .int k), (1, .int n)] := hl
  have hiX1 : ∀ w ∈ wsX10, w ∈ wsX10_newGang := by decide +kernel
  have hiX2 : ∀ w ∈ wsX20, w ∈ wsX10_newGang := by decide +kernel
  have hiX4 : ∀ w ∈ wsX40, w ∈ wsX10_newGang := by decide +kernel
  refine lv_iload_n hx hb dX10_newGang_0 rfl (lv_at hl 0 rfl) ?_
  by_cases hw1 : k = 1
  · subst hw1
    refine lv_lookup (off := 36) (tgt := 37) hx hb dX10_newGang_1 (by decide) (by decide) (by decide) ?_
    refine va_new (ci := 1) (fs := [.int 0, .int 0, .int 0, .long 0]) (C := RX1) (T := TX1) (N := 4) hx hb hts hiX1 tyX1 tyX1_ok hown (hts (.classLink RX10 155 RX1) (by decide +kernel)) (hts (.instantiable RX1 4) (by decide +kernel)) (hts (.initialized RX1) (by decide +kernel)) hK hP hD hS hA rfl (fun j hj => by rcases (show j = 0 ∨ j = 1 ∨ j = 2 ∨ j = 3 by omega) with rfl | rfl | rfl | rfl <;> rfl) (Nat.le_of_ble_eq_true rfl) (Nat.le_of_ble_eq_true rfl) dX10_newGang_37 (fun qg H hP hD hS => ?_)
    have hP : va_P (dC, dI) vwCl [(qg, .inr (1, [.int 0, .int 0, .int 0, .long 0]))] H := hP
    have hD : va_D _ [(qg, .inr (1, [.int 0, .int 0, .int 0, .long 0]))] := hD
    refine lv_dup hx hb dX10_newGang_40 rfl ?_
    refine lv_iload_n hx hb dX10_newGang_41 rfl (lv_at hl 1 rfl) ?_
    have hPc := hP.sub (ws' := [(qg, .inr (1, [.int 0, .int 0, .int 0, .long 0]))]) [0] rfl
    have hDc := hD.sub (ws' := [(qg, .inr (1, [.int 0, .int 0, .int 0, .long 0]))]) [0] (by decide) rfl
    have hKc := hK.sub (tys' := []) [] rfl
    have hFc := va_free (wc := [(qg, .inr (1, [.int 0, .int 0, .int 0, .long 0]))]) hD hS hA [0] rfl
    refine va_callv (va_runI (As := [.int n]) (rest := [.ref qg]) ⟨hx, hb, hml, hown, hts⟩ (c_X1_init l dC dI  _ qg n ) (cwI 1 hts gX10_newGang_X1_init rfl rfl rfl (hts (.initialized RX1) (by decide +kernel)) (hts (.methodLink RX10 157 yX1_init) (by decide +kernel)) (hts (.instanceMethod yX1_init) (by decide +kernel)) rfl (by decide +kernel) ⟨Nat.le_of_ble_eq_true rfl, Nat.le_of_ble_eq_true rfl⟩) (pw_preS hPc hKc hDc hN) rfl rfl hl.1 rfl (lv_room (Nat.le_of_ble_eq_true rfl)) dX10_newGang_42 ⟨Nat.le_of_ble_eq_true rfl, Nat.le_of_ble_eq_true rfl⟩) hS (fun q _ h => hFc q h) hFc (fun u t H1 locs ht hvm hw hB hz1 hk1 hS => ?_)
    obtain ⟨hP1, hK1, hD1⟩ := hB
    rw [ht] at hP1
    obtain ⟨hP, hD⟩ := va_join (wr := []) (w1 := [(qg, .inr (1, [.int n, .int 0, .int 0, .long 0]))]) hP hD [0] [] rfl rfl (by decide) (by decide) hk1 hFc hP1 hD1
    generalize H1 = H at hP hS ⊢
    have hP : va_P (dC, dI) vwCl [(qg, .inr (1, [.int n, .int 0, .int 0, .long 0]))] H := hP
    have hD : va_D _ [(qg, .inr (1, [.int n, .int 0, .int 0, .long 0]))] := hD
    have hP9 := hP.sub (ws' := [(qg, .inr (1, [.int n, .int 0, .int 0, .long 0]))]) [0] rfl
    have hD9 := hD.sub (ws' := [(qg, .inr (1, [.int n, .int 0, .int 0, .long 0]))]) [0] (by decide) rfl
    have hK9 := hK.sub (tys' := []) [] rfl
    exact W.aret (v := .ref qg) hx hb hr (Or.inl ⟨_, rfl⟩) (Or.inr ⟨_, rfl⟩) (fun t ht hW => ⟨⟨(), qg, rfl, trivial, 1, _, (Or.inl rfl), by rw [ht]; exact hP9, va_K.moved hW.alike hK9, hD9⟩, hS.F ht⟩) hS.2.2 dX10_newGang_45
  by_cases hw3 : k = 2
  · subst hw3
    refine lv_lookup (off := 27) (tgt := 28) hx hb dX10_newGang_1 (by decide) (by decide) (by decide) ?_
    refine va_new (ci := 4) (fs := [.int 0, .int 0, .int 0, .long 0]) (C := RX4) (T := TX4) (N := 4) hx hb hts hiX4 tyX4 tyX4_ok hown (hts (.classLink RX10 150 RX4) (by decide +kernel)) (hts (.instantiable RX4 4) (by decide +kernel)) (hts (.initialized RX4) (by decide +kernel)) hK hP hD hS hA rfl (fun j hj => by rcases (show j = 0 ∨ j = 1 ∨ j = 2 ∨ j = 3 by omega) with rfl | rfl | rfl | rfl <;> rfl) (Nat.le_of_ble_eq_true rfl) (Nat.le_of_ble_eq_true rfl) dX10_newGang_28 (fun qg H hP hD hS => ?_)
    have hP : va_P (dC, dI) vwCl [(qg, .inr (4, [.int 0, .int 0, .int 0, .long 0]))] H := hP
    have hD : va_D _ [(qg, .inr (4, [.int 0, .int 0, .int 0, .long 0]))] := hD
    refine lv_dup hx hb dX10_newGang_31 rfl ?_
    refine lv_iload_n hx hb dX10_newGang_32 rfl (lv_at hl 1 rfl) ?_
    have hPc := hP.sub (ws' := [(qg, .inr (4, [.int 0, .int 0, .int 0, .long 0]))]) [0] rfl
    have hDc := hD.sub (ws' := [(qg, .inr (4, [.int 0, .int 0, .int 0, .long 0]))]) [0] (by decide) rfl
    have hKc := hK.sub (tys' := []) [] rfl
    have hFc := va_free (wc := [(qg, .inr (4, [.int 0, .int 0, .int 0, .long 0]))]) hD hS hA [0] rfl
    refine va_callv (va_runI (As := [.int n]) (rest := [.ref qg]) ⟨hx, hb, hml, hown, hts⟩ (c_X4_init l dC dI  _ qg n ) (cwI 1 hts gX10_newGang_X4_init rfl rfl rfl (hts (.initialized RX4) (by decide +kernel)) (hts (.methodLink RX10 152 yX4_init) (by decide +kernel)) (hts (.instanceMethod yX4_init) (by decide +kernel)) rfl (by decide +kernel) ⟨Nat.le_of_ble_eq_true rfl, Nat.le_of_ble_eq_true rfl⟩) (pw_preS hPc hKc hDc hN) rfl rfl hl.1 rfl (lv_room (Nat.le_of_ble_eq_true rfl)) dX10_newGang_33 ⟨Nat.le_of_ble_eq_true rfl, Nat.le_of_ble_eq_true rfl⟩) hS (fun q _ h => hFc q h) hFc (fun u t H1 locs ht hvm hw hB hz1 hk1 hS => ?_)
    obtain ⟨hP1, hK1, hD1⟩ := hB
    rw [ht] at hP1
    obtain ⟨hP, hD⟩ := va_join (wr := []) (w1 := [(qg, .inr (4, [.int n, .int 0, .int 0, .long 0]))]) hP hD [0] [] rfl rfl (by decide) (by decide) hk1 hFc hP1 hD1
    generalize H1 = H at hP hS ⊢
    have hP : va_P (dC, dI) vwCl [(qg, .inr (4, [.int n, .int 0, .int 0, .long 0]))] H := hP
    have hD : va_D _ [(qg, .inr (4, [.int n, .int 0, .int 0, .long 0]))] := hD
    have hP9 := hP.sub (ws' := [(qg, .inr (4, [.int n, .int 0, .int 0, .long 0]))]) [0] rfl
    have hD9 := hD.sub (ws' := [(qg, .inr (4, [.int n, .int 0, .int 0, .long 0]))]) [0] (by decide) rfl
    have hK9 := hK.sub (tys' := []) [] rfl
    exact W.aret (v := .ref qg) hx hb hr (Or.inl ⟨_, rfl⟩) (Or.inr ⟨_, rfl⟩) (fun t ht hW => ⟨⟨(), qg, rfl, trivial, 4, _, (Or.inr (Or.inr rfl)), by rw [ht]; exact hP9, va_K.moved hW.alike hK9, hD9⟩, hS.F ht⟩) hS.2.2 dX10_newGang_36
  refine lv_lookup (off := 45) (tgt := 46) hx hb dX10_newGang_1 (by decide) (by rw [lv_osw hw1 (by decide), lv_osw hw3 (by decide)]; rfl) (by decide) ?_
  refine va_new (ci := 2) (fs := [.int 0, .int 0, .int 0, .long 0]) (C := RX2) (T := TX2) (N := 4) hx hb hts hiX2 tyX2 tyX2_ok hown (hts (.classLink RX10 24 RX2) (by decide +kernel)) (hts (.instantiable RX2 4) (by decide +kernel)) (hts (.initialized RX2) (by decide +kernel)) hK hP hD hS hA rfl (fun j hj => by rcases (show j = 0 ∨ j = 1 ∨ j = 2 ∨ j = 3 by omega) with rfl | rfl | rfl | rfl <;> rfl) (Nat.le_of_ble_eq_true rfl) (Nat.le_of_ble_eq_true rfl) dX10_newGang_46 (fun qg H hP hD hS => ?_)
  have hP : va_P (dC, dI) vwCl [(qg, .inr (2, [.int 0, .int 0, .int 0, .long 0]))] H := hP
  have hD : va_D _ [(qg, .inr (2, [.int 0, .int 0, .int 0, .long 0]))] := hD
  refine lv_dup hx hb dX10_newGang_49 rfl ?_
  refine lv_iload_n hx hb dX10_newGang_50 rfl (lv_at hl 1 rfl) ?_
  have hPc := hP.sub (ws' := [(qg, .inr (2, [.int 0, .int 0, .int 0, .long 0]))]) [0] rfl
  have hDc := hD.sub (ws' := [(qg, .inr (2, [.int 0, .int 0, .int 0, .long 0]))]) [0] (by decide) rfl
  have hKc := hK.sub (tys' := []) [] rfl
  have hFc := va_free (wc := [(qg, .inr (2, [.int 0, .int 0, .int 0, .long 0]))]) hD hS hA [0] rfl
  refine va_callv (va_runI (As := [.int n]) (rest := [.ref qg]) ⟨hx, hb, hml, hown, hts⟩ (c_X2_init l dC dI  _ qg n ) (cwI 1 hts gX10_newGang_X2_init rfl rfl rfl (hts (.initialized RX2) (by decide +kernel)) (hts (.methodLink RX10 158 yX2_init) (by decide +kernel)) (hts (.instanceMethod yX2_init) (by decide +kernel)) rfl (by decide +kernel) ⟨Nat.le_of_ble_eq_true rfl, Nat.le_of_ble_eq_true rfl⟩) (pw_preS hPc hKc hDc hN) rfl rfl hl.1 rfl (lv_room (Nat.le_of_ble_eq_true rfl)) dX10_newGang_51 ⟨Nat.le_of_ble_eq_true rfl, Nat.le_of_ble_eq_true rfl⟩) hS (fun q _ h => hFc q h) hFc (fun u t H1 locs ht hvm hw hB hz1 hk1 hS => ?_)
  obtain ⟨hP1, hK1, hD1⟩ := hB
  rw [ht] at hP1
  obtain ⟨hP, hD⟩ := va_join (wr := []) (w1 := [(qg, .inr (2, [.int n, .int 0, .int 0, .long 0]))]) hP hD [0] [] rfl rfl (by decide) (by decide) hk1 hFc hP1 hD1
  generalize H1 = H at hP hS ⊢
  have hP : va_P (dC, dI) vwCl [(qg, .inr (2, [.int n, .int 0, .int 0, .long 0]))] H := hP
  have hD : va_D _ [(qg, .inr (2, [.int n, .int 0, .int 0, .long 0]))] := hD
  have hP9 := hP.sub (ws' := [(qg, .inr (2, [.int n, .int 0, .int 0, .long 0]))]) [0] rfl
  have hD9 := hD.sub (ws' := [(qg, .inr (2, [.int n, .int 0, .int 0, .long 0]))]) [0] (by decide) rfl
  have hK9 := hK.sub (tys' := []) [] rfl
  exact W.aret (v := .ref qg) hx hb hr (Or.inl ⟨_, rfl⟩) (Or.inr ⟨_, rfl⟩) (fun t ht hW => ⟨⟨(), qg, rfl, trivial, 2, _, (Or.inr (Or.inl rfl)), by rw [ht]; exact hP9, va_K.moved hW.alike hK9, hD9⟩, hS.F ht⟩) hS.2.2 dX10_newGang_54
