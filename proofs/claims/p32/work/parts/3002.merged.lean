theorem k012 {k : Int32} (h : 0 ≤ k ∧ k ≤ 2) : k = 0 ∨ k = 1 ∨ k = 2 := by
  obtain ⟨a, ha, rfl⟩ := nI_of2 (x := k) (M := 2) (n := 2) (by decide) (Int32.not_lt.mpr h.1) h.2
  rcases (show a = 0 ∨ a = 1 ∨ a = 2 by omega) with rfl | rfl | rfl
  · exact Or.inl rfl
  · exact Or.inr (Or.inl rfl)
  · exact Or.inr (Or.inr rfl)
theorem nI_lt_of {a b : Nat} (ha : a ≤ 1000) (hb : b ≤ 1000) (h : nI a < nI b) : a < b := (nI_ltI (by omega) (by omega)).mp h
theorem nI_ge_of {a b : Nat} (ha : a ≤ 1000) (hb : b ≤ 1000) (h : ¬ nI a < nI b) : b ≤ a := Nat.not_lt.mp fun q => h ((nI_ltI (by omega) (by omega)).mpr q)
theorem opN_up {n k q : Nat} {a : Nat → Nat} (h : n ≤ k) : opN n (va_up a k q) = opN n a := by
  unfold opN
  by_cases h0 : n = 0
  · rw [if_pos h0, if_pos h0]
  · rw [if_neg h0, if_neg h0, va_up_ne _ _ (by omega)]
theorem sqn (a b : Nat) : (8 : Int32) * nI a + nI b = nI (8 * a + b) := by
  rw [show (8 : Int32) * nI a = nI (8 * a) from pk_mul 8 a]
  exact nI_add _ _
def racc (g : Nat → Int32) (b : Nat) (a : Int64) : Nat → Int64
  | 0 => a
  | k + 1 => racc g b a k + (g (b + k)).toInt64
def pacc (g : Nat → Int32) (xa w ya : Nat) : Nat → Int64
  | 0 => 0
  | i + 1 => racc g (8 * (ya + i) + xa) (pacc g xa w ya i) (w + 1)
def gacc (g : Nat → Int32) (b : Nat) (a : Int32) : Nat → Int32
  | 0 => a
  | k + 1 => if gacc g b a k < g (b + k) then g (b + k) else gacc g b a k
def pmax (g : Nat → Int32) (xa w ya : Nat) : Nat → Int32
  | 0 => 0
  | i + 1 => gacc g (8 * (ya + i) + xa) (pmax g xa w ya i) (w + 1)
theorem rect {a b c d : Int32} (h : (0 ≤ a.toInt ∧ a.toInt ≤ b.toInt ∧ b.toInt ≤ 7) ∧ (0 ≤ c.toInt ∧ c.toInt ≤ d.toInt ∧ d.toInt ≤ 5)) : ∃ xa wa ya ha : Nat, a = nI xa ∧ b = nI (xa + wa) ∧ c = nI ya ∧ d = nI (ya + ha) ∧ xa + wa ≤ 7 ∧ ya + ha ≤ 5 := by
  obtain ⟨⟨h1, h2, h3⟩, h4, h5, h6⟩ := h
  have z : (0 : Int32).toInt = 0 := by decide
  obtain ⟨xa, q1, rfl⟩ := nI_of (x := a) (fun q => by have q := (fa_lt _ _).mp q; omega)
  obtain ⟨xb, q2, rfl⟩ := nI_of (x := b) (fun q => by have q := (fa_lt _ _).mp q; omega)
  obtain ⟨ya, q3, rfl⟩ := nI_of (x := c) (fun q => by have q := (fa_lt _ _).mp q; omega)
  obtain ⟨yb, q4, rfl⟩ := nI_of (x := d) (fun q => by have q := (fa_lt _ _).mp q; omega)
  rw [nI_toInt q1] at h1 h2
  rw [nI_toInt q2] at h2 h3
  rw [nI_toInt q3] at h4 h5
  rw [nI_toInt q4] at h5 h6
  refine ⟨xa, xb - xa, ya, yb - ya, rfl, ?_, rfl, ?_, by omega, by omega⟩
  · rw [show xa + (xb - xa) = xb by omega]
  · rw [show ya + (yb - ya) = yb by omega]
set_option maxHeartbeats 4000000 in
set_option maxRecDepth 100000 in
theorem c_X2_init (l : Launch) (dC : Nat → ClassId) (dI : Nat → Nat → Nat)  (sz : Nat) (qg : Nat) (k : Int32)  : Met l yX2_init wsX2_init ({ frames := 1, cells := 0, slots := 0, locals := 12 }) (pw (dC, dI) [] [(qg, .inr (2, [.int 0, .int 0, .int 0, .long 0]))] sz [.ref qg, .int k]) (va_Qv (fun (_ : Unit) => True) (fun _ t => bw (dC, dI) [] (va_A [(qg, .inr (2, [.int 0, .int 0, .int 0, .long 0]))] sz) [(qg, .inr (2, [.int k, .int 0, .int 0, .long 0]))] t) (va_A [(qg, .inr (2, [.int 0, .int 0, .int 0, .long 0]))] sz)) 0 0 (va_A [(qg, .inr (2, [.int 0, .int 0, .int 0, .long 0]))] sz) := by
  refine pw_met (cc := cX2_init) (maxL := 2) (ret := none) (by decide) rfl (Nat.le_of_ble_eq_true rfl) ?_
  intro p e s m below meth c0 hx hb hr hml hown hlocks hnm hts hP hK hD hN hsz hA hS ls hl
  subst hsz
  have hl : lv_has ls 2 [(0, .ref qg), (1, .int k)] := hl
  have hiX2 : ∀ w ∈ wsX20, w ∈ wsX2_init := fun _ h => List.mem_cons_of_mem _ (List.mem_append_left _ (List.mem_append_right _ (h)))
  generalize hQ : MQ _ _ _ _ _ _ _ = Q
  refine lv_aload_n hx hb dX2_init_0 rfl (lv_at hl 0 rfl) ?_
  refine W.objInit hx hb hown (hts (.methodLink RX2 3 objectInit) (List.mem_of_getElem? (i := 1) rfl)) (hts (.instanceMethod objectInit) (List.mem_of_getElem? (i := 2) rfl)) (hts _ (List.mem_of_getElem? (i := 3) rfl)) rfl (by rw [hml]; exact hl.1) rfl dX2_init_1 (Nat.le_of_ble_eq_true rfl) (Nat.le_of_ble_eq_true rfl) ?_
  refine W.eq (g2 := F0 m 4 ls []) rfl ?_
  refine lv_aload_n hx hb dX2_init_4 rfl (lv_at hl 0 rfl) ?_
  refine lv_iload_n hx hb dX2_init_5 rfl (lv_at hl 1 rfl) ?_
  refine va_putF (D := (dC, dI)) (ci := 2) (v := .int k) (ty := .int) (C := RX2) (T := TX2) (N := 4) hx hb hts hiX2 tyX2 tyX2_ok nmX2 hown hK hP hD hS 0 rfl rfl 0 (by decide) (hts (.fieldLink RX2 9 "TributePitches$Gang" "number" "I") (List.mem_of_getElem? (i := 4) rfl)) (fun _ h9 => h9) rfl hnm rfl (by decide +kernel) rfl rfl (Nat.le_of_ble_eq_true rfl) dX2_init_6 (fun H locs hP hD hS => ?_)
  have hP : va_P (dC, dI) vwCl [(qg, .inr (2, [.int k, .int 0, .int 0, .long 0]))] H := hP
  have hD : va_D _ [(qg, .inr (2, [.int k, .int 0, .int 0, .long 0]))] := hD
  subst hQ
  have hP9 := hP.sub (ws' := [(qg, .inr (2, [.int k, .int 0, .int 0, .long 0]))]) [0] rfl
  have hD9 := hD.sub (ws' := [(qg, .inr (2, [.int k, .int 0, .int 0, .long 0]))]) [0] (by decide) rfl
  have hK9 := hK.sub (tys' := []) [] rfl
  exact W.vret hx hb hr (fun t ht hW => ⟨⟨(), rfl, trivial, ⟨by rw [ht]; exact hP9, va_K.moved hW.alike hK9, hD9⟩⟩, hS.F ht⟩) hS.2.2 dX2_init_9
set_option maxHeartbeats 4000000 in
set_option maxRecDepth 100000 in
theorem c_X2_init1 (l : Launch) (dC : Nat → ClassId) (dI : Nat → Nat → Nat)  (sz : Nat) (qg : Nat) (k : Int32)  : Met l yX2_init wsX2_init ({ frames := 1, cells := 0, slots := 0, locals := 12 }) (pw (dC, dI) [] [(qg, .inr (1, [.int 0, .int 0, .int 0, .long 0]))] sz [.ref qg, .int k]) (va_Qv (fun (_ : Unit) => True) (fun _ t => bw (dC, dI) [] (va_A [(qg, .inr (1, [.int 0, .int 0, .int 0, .long 0]))] sz) [(qg, .inr (1, [.int k, .int 0, .int 0, .long 0]))] t) (va_A [(qg, .inr (1, [.int 0, .int 0, .int 0, .long 0]))] sz)) 0 0 (va_A [(qg, .inr (1, [.int 0, .int 0, .int 0, .long 0]))] sz) := by
  refine pw_met (cc := cX2_init) (maxL := 2) (ret := none) (by decide) rfl (Nat.le_of_ble_eq_true rfl) ?_
  intro p e s m below meth c0 hx hb hr hml hown hlocks hnm hts hP hK hD hN hsz hA hS ls hl
  subst hsz
  have hl : lv_has ls 2 [(0, .ref qg), (1, .int k)] := hl
  have hiX1 : ∀ w ∈ wsX10, w ∈ wsX2_init := fun _ h => List.mem_cons_of_mem _ (List.mem_append_left _ (List.mem_append_left _ (List.mem_append_right _ (h))))
  generalize hQ : MQ _ _ _ _ _ _ _ = Q
  refine lv_aload_n hx hb dX2_init_0 rfl (lv_at hl 0 rfl) ?_
  refine W.objInit hx hb hown (hts (.methodLink RX2 3 objectInit) (List.mem_of_getElem? (i := 1) rfl)) (hts (.instanceMethod objectInit) (List.mem_of_getElem? (i := 2) rfl)) (hts _ (List.mem_of_getElem? (i := 3) rfl)) rfl (by rw [hml]; exact hl.1) rfl dX2_init_1 (Nat.le_of_ble_eq_true rfl) (Nat.le_of_ble_eq_true rfl) ?_
  refine W.eq (g2 := F0 m 4 ls []) rfl ?_
  refine lv_aload_n hx hb dX2_init_4 rfl (lv_at hl 0 rfl) ?_
  refine lv_iload_n hx hb dX2_init_5 rfl (lv_at hl 1 rfl) ?_
  refine va_putF (D := (dC, dI)) (ci := 1) (v := .int k) (ty := .int) (C := RX1) (T := TX1) (N := 4) hx hb hts hiX1 tyX1 tyX1_ok nmX1 hown hK hP hD hS 0 rfl rfl 0 (by decide) (hts (.fieldLink RX2 9 "TributePitches$Gang" "number" "I") (List.mem_of_getElem? (i := 4) rfl)) (fun _ h9 => h9) rfl hnm rfl (by decide +kernel) rfl rfl (Nat.le_of_ble_eq_true rfl) dX2_init_6 (fun H locs hP hD hS => ?_)
  have hP : va_P (dC, dI) vwCl [(qg, .inr (1, [.int k, .int 0, .int 0, .long 0]))] H := hP
  have hD : va_D _ [(qg, .inr (1, [.int k, .int 0, .int 0, .long 0]))] := hD
  subst hQ
  have hP9 := hP.sub (ws' := [(qg, .inr (1, [.int k, .int 0, .int 0, .long 0]))]) [0] rfl
  have hD9 := hD.sub (ws' := [(qg, .inr (1, [.int k, .int 0, .int 0, .long 0]))]) [0] (by decide) rfl
  have hK9 := hK.sub (tys' := []) [] rfl
  exact W.vret hx hb hr (fun t ht hW => ⟨⟨(), rfl, trivial, ⟨by rw [ht]; exact hP9, va_K.moved hW.alike hK9, hD9⟩⟩, hS.F ht⟩) hS.2.2 dX2_init_9
set_option maxHeartbeats 4000000 in
set_option maxRecDepth 100000 in
theorem c_X2_init4 (l : Launch) (dC : Nat → ClassId) (dI : Nat → Nat → Nat)  (sz : Nat) (qg : Nat) (k : Int32)  : Met l yX2_init wsX2_init ({ frames := 1, cells := 0, slots := 0, locals := 12 }) (pw (dC, dI) [] [(qg, .inr (4, [.int 0, .int 0, .int 0, .long 0]))] sz [.ref qg, .int k]) (va_Qv (fun (_ : Unit) => True) (fun _ t => bw (dC, dI) [] (va_A [(qg, .inr (4, [.int 0, .int 0, .int 0, .long 0]))] sz) [(qg, .inr (4, [.int k, .int 0, .int 0, .long 0]))] t) (va_A [(qg, .inr (4, [.int 0, .int 0, .int 0, .long 0]))] sz)) 0 0 (va_A [(qg, .inr (4, [.int 0, .int 0, .int 0, .long 0]))] sz) := by
  refine pw_met (cc := cX2_init) (maxL := 2) (ret := none) (by decide) rfl (Nat.le_of_ble_eq_true rfl) ?_
  intro p e s m below meth c0 hx hb hr hml hown hlocks hnm hts hP hK hD hN hsz hA hS ls hl
  subst hsz
  have hl : lv_has ls 2 [(0, .ref qg), (1, .int k)] := hl
  have hiX4 : ∀ w ∈ wsX40, w ∈ wsX2_init := fun _ h => List.mem_cons_of_mem _ (List.mem_append_right _ (h))
  generalize hQ : MQ _ _ _ _ _ _ _ = Q
  refine lv_aload_n hx hb dX2_init_0 rfl (lv_at hl 0 rfl) ?_
  refine W.objInit hx hb hown (hts (.methodLink RX2 3 objectInit) (List.mem_of_getElem? (i := 1) rfl)) (hts (.instanceMethod objectInit) (List.mem_of_getElem? (i := 2) rfl)) (hts _ (List.mem_of_getElem? (i := 3) rfl)) rfl (by rw [hml]; exact hl.1) rfl dX2_init_1 (Nat.le_of_ble_eq_true rfl) (Nat.le_of_ble_eq_true rfl) ?_
  refine W.eq (g2 := F0 m 4 ls []) rfl ?_
  refine lv_aload_n hx hb dX2_init_4 rfl (lv_at hl 0 rfl) ?_
  refine lv_iload_n hx hb dX2_init_5 rfl (lv_at hl 1 rfl) ?_
  refine va_putF (D := (dC, dI)) (ci := 4) (v := .int k) (ty := .int) (C := RX4) (T := TX4) (N := 4) hx hb hts hiX4 tyX4 tyX4_ok nmX4 hown hK hP hD hS 0 rfl rfl 0 (by decide) (hts (.fieldLink RX2 9 "TributePitches$Gang" "number" "I") (List.mem_of_getElem? (i := 4) rfl)) (fun _ h9 => h9) rfl hnm rfl (by decide +kernel) rfl rfl (Nat.le_of_ble_eq_true rfl) dX2_init_6 (fun H locs hP hD hS => ?_)
  have hP : va_P (dC, dI) vwCl [(qg, .inr (4, [.int k, .int 0, .int 0, .long 0]))] H := hP
  have hD : va_D _ [(qg, .inr (4, [.int k, .int 0, .int 0, .long 0]))] := hD
  subst hQ
  have hP9 := hP.sub (ws' := [(qg, .inr (4, [.int k, .int 0, .int 0, .long 0]))]) [0] rfl
  have hD9 := hD.sub (ws' := [(qg, .inr (4, [.int k, .int 0, .int 0, .long 0]))]) [0] (by decide) rfl
  have hK9 := hK.sub (tys' := []) [] rfl
  exact W.vret hx hb hr (fun t ht hW => ⟨⟨(), rfl, trivial, ⟨by rw [ht]; exact hP9, va_K.moved hW.alike hK9, hD9⟩⟩, hS.F ht⟩) hS.2.2 dX2_init_9
set_option maxHeartbeats 4000000 in
set_option maxRecDepth 100000 in
theorem c_X1_init (l : Launch) (dC : Nat → ClassId) (dI : Nat → Nat → Nat)  (sz : Nat) (qg : Nat) (k : Int32)  : Met l yX1_init wsX1_init ({ frames := 2, cells := 0, slots := 0, locals := 40 }) (pw (dC, dI) [] [(qg, .inr (1, [.int 0, .int 0, .int 0, .long 0]))] sz [.ref qg, .int k]) (va_Qv (fun (_ : Unit) => True) (fun _ t => bw (dC, dI) [] (va_A [(qg, .inr (1, [.int 0, .int 0, .int 0, .long 0]))] sz) [(qg, .inr (1, [.int k, .int 0, .int 0, .long 0]))] t) (va_A [(qg, .inr (1, [.int 0, .int 0, .int 0, .long 0]))] sz)) 0 0 (va_A [(qg, .inr (1, [.int 0, .int 0, .int 0, .long 0]))] sz) := by
  refine pw_met (cc := cX1_init) (maxL := 2) (ret := none) (by decide) rfl (Nat.le_of_ble_eq_true rfl) ?_
  intro p e s m below meth c0 hx hb hr hml hown hlocks hnm hts hP hK hD hN hsz hA hS ls hl
  subst hsz
  have hl : lv_has ls 2 [(0, .ref qg), (1, .int k)] := hl
  generalize hQ : MQ _ _ _ _ _ _ _ = Q
  refine lv_aload_n hx hb dX1_init_0 rfl (lv_at hl 0 rfl) ?_
  refine lv_iload_n hx hb dX1_init_1 rfl (lv_at hl 1 rfl) ?_
  have hPc := hP.sub (ws' := [(qg, .inr (1, [.int 0, .int 0, .int 0, .long 0]))]) [0] rfl
  have hDc := hD.sub (ws' := [(qg, .inr (1, [.int 0, .int 0, .int 0, .long 0]))]) [0] (by decide) rfl
  have hKc := hK.sub (tys' := []) [] rfl
  have hFc := va_free (wc := [(qg, .inr (1, [.int 0, .int 0, .int 0, .long 0]))]) hD hS hA [0] rfl
  refine va_callv (va_runI (As := [.int k]) (rest := []) ⟨hx, hb, hml, hown, hts⟩ (c_X2_init1 l dC dI  _ qg k ) (cwI 1 hts gX1_init_X2_init rfl rfl rfl (hts (.initialized RX2) (List.mem_of_getElem? (i := 3) rfl)) (hts (.methodLink RX1 1 yX2_init) (List.mem_of_getElem? (i := 1) rfl)) (hts (.instanceMethod yX2_init) (List.mem_of_getElem? (i := 2) rfl)) rfl (by decide +kernel) ⟨Nat.le_of_ble_eq_true rfl, Nat.le_of_ble_eq_true rfl⟩) (pw_preS hPc hKc hDc hN) rfl rfl hl.1 rfl (lv_room (Nat.le_of_ble_eq_true rfl)) dX1_init_2 ⟨Nat.le_of_ble_eq_true rfl, Nat.le_of_ble_eq_true rfl⟩) hS (fun q _ h => hFc q h) hFc (fun u t H1 locs ht hvm hw hB hz1 hk1 hS => ?_)
  obtain ⟨hP1, hK1, hD1⟩ := hB
  rw [ht] at hP1
  obtain ⟨hP, hD⟩ := va_join (wr := []) (w1 := [(qg, .inr (1, [.int k, .int 0, .int 0, .long 0]))]) hP hD [0] [] rfl rfl (by decide) (by decide) hk1 hFc hP1 hD1
  generalize H1 = H at hP hS ⊢
  have hP : va_P (dC, dI) vwCl [(qg, .inr (1, [.int k, .int 0, .int 0, .long 0]))] H := hP
  have hD : va_D _ [(qg, .inr (1, [.int k, .int 0, .int 0, .long 0]))] := hD
  subst hQ
  have hP9 := hP.sub (ws' := [(qg, .inr (1, [.int k, .int 0, .int 0, .long 0]))]) [0] rfl
  have hD9 := hD.sub (ws' := [(qg, .inr (1, [.int k, .int 0, .int 0, .long 0]))]) [0] (by decide) rfl
  have hK9 := hK.sub (tys' := []) [] rfl
  exact W.vret hx hb hr (fun t ht hW => ⟨⟨(), rfl, trivial, ⟨by rw [ht]; exact hP9, va_K.moved hW.alike hK9, hD9⟩⟩, hS.F ht⟩) hS.2.2 dX1_init_5
set_option maxHeartbeats 4000000 in
set_option maxRecDepth 100000 in
theorem c_X1_init4 (l : Launch) (dC : Nat → ClassId) (dI : Nat → Nat → Nat)  (sz : Nat) (qg : Nat) (k : Int32)  : Met l yX1_init wsX1_init ({ frames := 2, cells := 0, slots := 0, locals := 40 }) (pw (dC, dI) [] [(qg, .inr (4, [.int 0, .int 0, .int 0, .long 0]))] sz [.ref qg, .int k]) (va_Qv (fun (_ : Unit) => True) (fun _ t => bw (dC, dI) [] (va_A [(qg, .inr (4, [.int 0, .int 0, .int 0, .long 0]))] sz) [(qg, .inr (4, [.int k, .int 0, .int 0, .long 0]))] t) (va_A [(qg, .inr (4, [.int 0, .int 0, .int 0, .long 0]))] sz)) 0 0 (va_A [(qg, .inr (4, [.int 0, .int 0, .int 0, .long 0]))] sz) := by
  refine pw_met (cc := cX1_init) (maxL := 2) (ret := none) (by decide) rfl (Nat.le_of_ble_eq_true rfl) ?_
  intro p e s m below meth c0 hx hb hr hml hown hlocks hnm hts hP hK hD hN hsz hA hS ls hl
  subst hsz
  have hl : lv_has ls 2 [(0, .ref qg), (1, .int k)] := hl
  generalize hQ : MQ _ _ _ _ _ _ _ = Q
  refine lv_aload_n hx hb dX1_init_0 rfl (lv_at hl 0 rfl) ?_
  refine lv_iload_n hx hb dX1_init_1 rfl (lv_at hl 1 rfl) ?_
  have hPc := hP.sub (ws' := [(qg, .inr (4, [.int 0, .int 0, .int 0, .long 0]))]) [0] rfl
  have hDc := hD.sub (ws' := [(qg, .inr (4, [.int 0, .int 0, .int 0, .long 0]))]) [0] (by decide) rfl
  have hKc := hK.sub (tys' := []) [] rfl
  have hFc := va_free (wc := [(qg, .inr (4, [.int 0, .int 0, .int 0, .long 0]))]) hD hS hA [0] rfl
  refine va_callv (va_runI (As := [.int k]) (rest := []) ⟨hx, hb, hml, hown, hts⟩ (c_X2_init4 l dC dI  _ qg k ) (cwI 1 hts gX1_init_X2_init rfl rfl rfl (hts (.initialized RX2) (List.mem_of_getElem? (i := 3) rfl)) (hts (.methodLink RX1 1 yX2_init) (List.mem_of_getElem? (i := 1) rfl)) (hts (.instanceMethod yX2_init) (List.mem_of_getElem? (i := 2) rfl)) rfl (by decide +kernel) ⟨Nat.le_of_ble_eq_true rfl, Nat.le_of_ble_eq_true rfl⟩) (pw_preS hPc hKc hDc hN) rfl rfl hl.1 rfl (lv_room (Nat.le_of_ble_eq_true rfl)) dX1_init_2 ⟨Nat.le_of_ble_eq_true rfl, Nat.le_of_ble_eq_true rfl⟩) hS (fun q _ h => hFc q h) hFc (fun u t H1 locs ht hvm hw hB hz1 hk1 hS => ?_)
  obtain ⟨hP1, hK1, hD1⟩ := hB
  rw [ht] at hP1
  obtain ⟨hP, hD⟩ := va_join (wr := []) (w1 := [(qg, .inr (4, [.int k, .int 0, .int 0, .long 0]))]) hP hD [0] [] rfl rfl (by decide) (by decide) hk1 hFc hP1 hD1
  generalize H1 = H at hP hS ⊢
  have hP : va_P (dC, dI) vwCl [(qg, .inr (4, [.int k, .int 0, .int 0, .long 0]))] H := hP
  have hD : va_D _ [(qg, .inr (4, [.int k, .int 0, .int 0, .long 0]))] := hD
  subst hQ
  have hP9 := hP.sub (ws' := [(qg, .inr (4, [.int k, .int 0, .int 0, .long 0]))]) [0] rfl
  have hD9 := hD.sub (ws' := [(qg, .inr (4, [.int k, .int 0, .int 0, .long 0]))]) [0] (by decide) rfl
  have hK9 := hK.sub (tys' := []) [] rfl
  exact W.vret hx hb hr (fun t ht hW => ⟨⟨(), rfl, trivial, ⟨by rw [ht]; exact hP9, va_K.moved hW.alike hK9, hD9⟩⟩, hS.F ht⟩) hS.2.2 dX1_init_5
set_option maxHeartbeats 4000000 in
set_option maxRecDepth 100000 in
theorem c_X4_init (l : Launch) (dC : Nat → ClassId) (dI : Nat → Nat → Nat)  (sz : Nat) (qg : Nat) (k : Int32)  : Met l yX4_init wsX4_init ({ frames := 3, cells := 0, slots := 0, locals := 70 }) (pw (dC, dI) [] [(qg, .inr (4, [.int 0, .int 0, .int 0, .long 0]))] sz [.ref qg, .int k]) (va_Qv (fun (_ : Unit) => True) (fun _ t => bw (dC, dI) [] (va_A [(qg, .inr (4, [.int 0, .int 0, .int 0, .long 0]))] sz) [(qg, .inr (4, [.int k, .int 0, .int 0, .long 0]))] t) (va_A [(qg, .inr (4, [.int 0, .int 0, .int 0, .long 0]))] sz)) 0 0 (va_A [(qg, .inr (4, [.int 0, .int 0, .int 0, .long 0]))] sz) := by
  refine pw_met (cc := cX4_init) (maxL := 2) (ret := none) (by decide) rfl (Nat.le_of_ble_eq_true rfl) ?_
  intro p e s m below meth c0 hx hb hr hml hown hlocks hnm hts hP hK hD hN hsz hA hS ls hl
  subst hsz
  have hl : lv_has ls 2 [(0, .ref qg), (1, .int k)] := hl
  generalize hQ : MQ _ _ _ _ _ _ _ = Q
  refine lv_aload_n hx hb dX4_init_0 rfl (lv_at hl 0 rfl) ?_
  refine lv_iload_n hx hb dX4_init_1 rfl (lv_at hl 1 rfl) ?_
  have hPc := hP.sub (ws' := [(qg, .inr (4, [.int 0, .int 0, .int 0, .long 0]))]) [0] rfl
  have hDc := hD.sub (ws' := [(qg, .inr (4, [.int 0, .int 0, .int 0, .long 0]))]) [0] (by decide) rfl
  have hKc := hK.sub (tys' := []) [] rfl
  have hFc := va_free (wc := [(qg, .inr (4, [.int 0, .int 0, .int 0, .long 0]))]) hD hS hA [0] rfl
  refine va_callv (va_runI (As := [.int k]) (rest := []) ⟨hx, hb, hml, hown, hts⟩ (c_X1_init4 l dC dI  _ qg k ) (cwI 1 hts gX4_init_X1_init rfl rfl rfl (hts (.initialized RX1) (List.mem_of_getElem? (i := 3) rfl)) (hts (.methodLink RX4 1 yX1_init) (List.mem_of_getElem? (i := 1) rfl)) (hts (.instanceMethod yX1_init) (List.mem_of_getElem? (i := 2) rfl)) rfl (by decide +kernel) ⟨Nat.le_of_ble_eq_true rfl, Nat.le_of_ble_eq_true rfl⟩) (pw_preS hPc hKc hDc hN) rfl rfl hl.1 rfl (lv_room (Nat.le_of_ble_eq_true rfl)) dX4_init_2 ⟨Nat.le_of_ble_eq_true rfl, Nat.le_of_ble_eq_true rfl⟩) hS (fun q _ h => hFc q h) hFc (fun u t H1 locs ht hvm hw hB hz1 hk1 hS => ?_)
  obtain ⟨hP1, hK1, hD1⟩ := hB
  rw [ht] at hP1
  obtain ⟨hP, hD⟩ := va_join (wr := []) (w1 := [(qg, .inr (4, [.int k, .int 0, .int 0, .long 0]))]) hP hD [0] [] rfl rfl (by decide) (by decide) hk1 hFc hP1 hD1
  generalize H1 = H at hP hS ⊢
  have hP : va_P (dC, dI) vwCl [(qg, .inr (4, [.int k, .int 0, .int 0, .long 0]))] H := hP
  have hD : va_D _ [(qg, .inr (4, [.int k, .int 0, .int 0, .long 0]))] := hD
  subst hQ
  have hP9 := hP.sub (ws' := [(qg, .inr (4, [.int k, .int 0, .int 0, .long 0]))]) [0] rfl
  have hD9 := hD.sub (ws' := [(qg, .inr (4, [.int k, .int 0, .int 0, .long 0]))]) [0] (by decide) rfl
  have hK9 := hK.sub (tys' := []) [] rfl
  exact W.vret hx hb hr (fun t ht hW => ⟨⟨(), rfl, trivial, ⟨by rw [ht]; exact hP9, va_K.moved hW.alike hK9, hD9⟩⟩, hS.F ht⟩) hS.2.2 dX4_init_5
set_option maxHeartbeats 4000000 in
set_option maxRecDepth 100000 in
theorem s_newGang_4 (l : Launch) (dC : Nat → ClassId) (dI : Nat → Nat → Nat)  (sz : Nat) (n : Int32)  : Met l yX10_newGang wsX10_newGang ({ frames := 4, cells := 1, slots := 4, locals := 120 }) (pw (dC, dI) [] [] sz [.int 2, .int n]) (va_Qr (fun (_ : Unit) => True) (fun _ ra t => bw (dC, dI) [] (va_A [] sz) [(ra, .inr (4, [.int n, .int 0, .int 0, .long 0]))] t) (va_A [] sz)) 1 4 (va_A [] sz) := by
  refine pw_met (cc := cX10_newGang) (maxL := 2) (ret := (some (.object "TributePitches$Gang"))) (by decide) rfl (Nat.le_of_ble_eq_true rfl) ?_
  intro p e s m below meth c0 hx hb hr hml hown hlocks hnm hts hP hK hD hN hsz hA hS ls hl
  subst hsz
  have hl : lv_has ls 2 [(0, .int 2), (1, .int n)] := hl
  have hiX4 : ∀ w ∈ wsX40, w ∈ wsX10_newGang := fun _ h => List.mem_cons_of_mem _ (List.mem_append_left _ (List.mem_append_left _ (List.mem_append_right _ (h))))
  generalize hQ : MQ _ _ _ _ _ _ _ = Q
  refine lv_iload_n hx hb dX10_newGang_0 rfl (lv_at hl 0 rfl) ?_
  refine lv_lookup (off := 27) (tgt := 28) hx hb dX10_newGang_1 (by decide) (by decide) (by decide) ?_
  refine va_new (ci := 4) (fs := [.int 0, .int 0, .int 0, .long 0]) (C := RX4) (T := TX4) (N := 4) hx hb hts hiX4 tyX4 tyX4_ok hown (hts (.classLink RX10 150 RX4) (List.mem_of_getElem? (i := 1) rfl)) (hts (.instantiable RX4 4) (List.mem_of_getElem? (i := 2) rfl)) (hts (.initialized RX4) (List.mem_of_getElem? (i := 3) rfl)) hK hP hD hS hA rfl (fun j hj => by rcases (show j = 0 ∨ j = 1 ∨ j = 2 ∨ j = 3 by omega) with rfl | rfl | rfl | rfl <;> rfl) (Nat.le_of_ble_eq_true rfl) (Nat.le_of_ble_eq_true rfl) dX10_newGang_28 (fun qg H hP hD hS => ?_)
  have hP : va_P (dC, dI) vwCl [(qg, .inr (4, [.int 0, .int 0, .int 0, .long 0]))] H := hP
  have hD : va_D _ [(qg, .inr (4, [.int 0, .int 0, .int 0, .long 0]))] := hD
  refine lv_dup hx hb dX10_newGang_31 rfl ?_
  refine lv_iload_n hx hb dX10_newGang_32 rfl (lv_at hl 1 rfl) ?_
  have hPc := hP.sub (ws' := [(qg, .inr (4, [.int 0, .int 0, .int 0, .long 0]))]) [0] rfl
  have hDc := hD.sub (ws' := [(qg, .inr (4, [.int 0, .int 0, .int 0, .long 0]))]) [0] (by decide) rfl
  have hKc := hK.sub (tys' := []) [] rfl
  have hFc := va_free (wc := [(qg, .inr (4, [.int 0, .int 0, .int 0, .long 0]))]) hD hS hA [0] rfl
  refine va_callv (va_runI (As := [.int n]) (rest := [.ref qg]) ⟨hx, hb, hml, hown, hts⟩ (c_X4_init l dC dI  _ qg n ) (cwI 1 hts gX10_newGang_X4_init rfl rfl rfl (hts (.initialized RX4) (List.mem_of_getElem? (i := 3) rfl)) (hts (.methodLink RX10 152 yX4_init) (List.mem_of_getElem? (i := 10) rfl)) (hts (.instanceMethod yX4_init) (List.mem_of_getElem? (i := 11) rfl)) rfl (by decide +kernel) ⟨Nat.le_of_ble_eq_true rfl, Nat.le_of_ble_eq_true rfl⟩) (pw_preS hPc hKc hDc hN) rfl rfl hl.1 rfl (lv_room (Nat.le_of_ble_eq_true rfl)) dX10_newGang_33 ⟨Nat.le_of_ble_eq_true rfl, Nat.le_of_ble_eq_true rfl⟩) hS (fun q _ h => hFc q h) hFc (fun u t H1 locs ht hvm hw hB hz1 hk1 hS => ?_)
  obtain ⟨hP1, hK1, hD1⟩ := hB
  rw [ht] at hP1
  obtain ⟨hP, hD⟩ := va_join (wr := []) (w1 := [(qg, .inr (4, [.int n, .int 0, .int 0, .long 0]))]) hP hD [0] [] rfl rfl (by decide) (by decide) hk1 hFc hP1 hD1
  generalize H1 = H at hP hS ⊢
  have hP : va_P (dC, dI) vwCl [(qg, .inr (4, [.int n, .int 0, .int 0, .long 0]))] H := hP
  have hD : va_D _ [(qg, .inr (4, [.int n, .int 0, .int 0, .long 0]))] := hD
  subst hQ
  have hP9 := hP.sub (ws' := [(qg, .inr (4, [.int n, .int 0, .int 0, .long 0]))]) [0] rfl
  have hD9 := hD.sub (ws' := [(qg, .inr (4, [.int n, .int 0, .int 0, .long 0]))]) [0] (by decide) rfl
  have hK9 := hK.sub (tys' := []) [] rfl
  exact W.aret (v := .ref qg) hx hb hr (Or.inl ⟨_, rfl⟩) (Or.inr ⟨_, rfl⟩) (fun t ht hW => ⟨⟨(), qg, rfl, trivial, by rw [ht]; exact hP9, va_K.moved hW.alike hK9, hD9⟩, hS.F ht⟩) hS.2.2 dX10_newGang_36
set_option maxHeartbeats 4000000 in
set_option maxRecDepth 100000 in
theorem s_newGang_1 (l : Launch) (dC : Nat → ClassId) (dI : Nat → Nat → Nat)  (sz : Nat) (n : Int32)  : Met l yX10_newGang wsX10_newGang ({ frames := 4, cells := 1, slots := 4, locals := 120 }) (pw (dC, dI) [] [] sz [.int 1, .int n]) (va_Qr (fun (_ : Unit) => True) (fun _ ra t => bw (dC, dI) [] (va_A [] sz) [(ra, .inr (1, [.int n, .int 0, .int 0, .long 0]))] t) (va_A [] sz)) 1 4 (va_A [] sz) := by
  refine pw_met (cc := cX10_newGang) (maxL := 2) (ret := (some (.object "TributePitches$Gang"))) (by decide) rfl (Nat.le_of_ble_eq_true rfl) ?_
  intro p e s m below meth c0 hx hb hr hml hown hlocks hnm hts hP hK hD hN hsz hA hS ls hl
  subst hsz
  have hl : lv_has ls 2 [(0, .int 1), (1, .int n)] := hl
  have hiX1 : ∀ w ∈ wsX10, w ∈ wsX10_newGang := fun _ h => List.mem_cons_of_mem _ (List.mem_append_left _ (List.mem_append_right _ (h)))
  generalize hQ : MQ _ _ _ _ _ _ _ = Q
  refine lv_iload_n hx hb dX10_newGang_0 rfl (lv_at hl 0 rfl) ?_
  refine lv_lookup (off := 36) (tgt := 37) hx hb dX10_newGang_1 (by decide) (by decide) (by decide) ?_
  refine va_new (ci := 1) (fs := [.int 0, .int 0, .int 0, .long 0]) (C := RX1) (T := TX1) (N := 4) hx hb hts hiX1 tyX1 tyX1_ok hown (hts (.classLink RX10 155 RX1) (List.mem_of_getElem? (i := 4) rfl)) (hts (.instantiable RX1 4) (List.mem_of_getElem? (i := 5) rfl)) (hts (.initialized RX1) (List.mem_of_getElem? (i := 6) rfl)) hK hP hD hS hA rfl (fun j hj => by rcases (show j = 0 ∨ j = 1 ∨ j = 2 ∨ j = 3 by omega) with rfl | rfl | rfl | rfl <;> rfl) (Nat.le_of_ble_eq_true rfl) (Nat.le_of_ble_eq_true rfl) dX10_newGang_37 (fun qg H hP hD hS => ?_)
  have hP : va_P (dC, dI) vwCl [(qg, .inr (1, [.int 0, .int 0, .int 0, .long 0]))] H := hP
  have hD : va_D _ [(qg, .inr (1, [.int 0, .int 0, .int 0, .long 0]))] := hD
  refine lv_dup hx hb dX10_newGang_40 rfl ?_
  refine lv_iload_n hx hb dX10_newGang_41 rfl (lv_at hl 1 rfl) ?_
  have hPc := hP.sub (ws' := [(qg, .inr (1, [.int 0, .int 0, .int 0, .long 0]))]) [0] rfl
  have hDc := hD.sub (ws' := [(qg, .inr (1, [.int 0, .int 0, .int 0, .long 0]))]) [0] (by decide) rfl
  have hKc := hK.sub (tys' := []) [] rfl
  have hFc := va_free (wc := [(qg, .inr (1, [.int 0, .int 0, .int 0, .long 0]))]) hD hS hA [0] rfl
  refine va_callv (va_runI (As := [.int n]) (rest := [.ref qg]) ⟨hx, hb, hml, hown, hts⟩ (c_X1_init l dC dI  _ qg n ) (cwI 1 hts gX10_newGang_X1_init rfl rfl rfl (hts (.initialized RX1) (List.mem_of_getElem? (i := 6) rfl)) (hts (.methodLink RX10 157 yX1_init) (List.mem_of_getElem? (i := 23) rfl)) (hts (.instanceMethod yX1_init) (List.mem_of_getElem? (i := 14) rfl)) rfl (by decide +kernel) ⟨Nat.le_of_ble_eq_true rfl, Nat.le_of_ble_eq_true rfl⟩) (pw_preS hPc hKc hDc hN) rfl rfl hl.1 rfl (lv_room (Nat.le_of_ble_eq_true rfl)) dX10_newGang_42 ⟨Nat.le_of_ble_eq_true rfl, Nat.le_of_ble_eq_true rfl⟩) hS (fun q _ h => hFc q h) hFc (fun u t H1 locs ht hvm hw hB hz1 hk1 hS => ?_)
  obtain ⟨hP1, hK1, hD1⟩ := hB
  rw [ht] at hP1
  obtain ⟨hP, hD⟩ := va_join (wr := []) (w1 := [(qg, .inr (1, [.int n, .int 0, .int 0, .long 0]))]) hP hD [0] [] rfl rfl (by decide) (by decide) hk1 hFc hP1 hD1
  generalize H1 = H at hP hS ⊢
  have hP : va_P (dC, dI) vwCl [(qg, .inr (1, [.int n, .int 0, .int 0, .long 0]))] H := hP
  have hD : va_D _ [(qg, .inr (1, [.int n, .int 0, .int 0, .long 0]))] := hD
  subst hQ
  have hP9 := hP.sub (ws' := [(qg, .inr (1, [.int n, .int 0, .int 0, .long 0]))]) [0] rfl
  have hD9 := hD.sub (ws' := [(qg, .inr (1, [.int n, .int 0, .int 0, .long 0]))]) [0] (by decide) rfl
  have hK9 := hK.sub (tys' := []) [] rfl
  exact W.aret (v := .ref qg) hx hb hr (Or.inl ⟨_, rfl⟩) (Or.inr ⟨_, rfl⟩) (fun t ht hW => ⟨⟨(), qg, rfl, trivial, by rw [ht]; exact hP9, va_K.moved hW.alike hK9, hD9⟩, hS.F ht⟩) hS.2.2 dX10_newGang_45
set_option maxHeartbeats 4000000 in
set_option maxRecDepth 100000 in
theorem s_newGang_2 (l : Launch) (dC : Nat → ClassId) (dI : Nat → Nat → Nat)  (sz : Nat) (n : Int32)  : Met l yX10_newGang wsX10_newGang ({ frames := 4, cells := 1, slots := 4, locals := 120 }) (pw (dC, dI) [] [] sz [.int 0, .int n]) (va_Qr (fun (_ : Unit) => True) (fun _ ra t => bw (dC, dI) [] (va_A [] sz) [(ra, .inr (2, [.int n, .int 0, .int 0, .long 0]))] t) (va_A [] sz)) 1 4 (va_A [] sz) := by
  refine pw_met (cc := cX10_newGang) (maxL := 2) (ret := (some (.object "TributePitches$Gang"))) (by decide) rfl (Nat.le_of_ble_eq_true rfl) ?_
  intro p e s m below meth c0 hx hb hr hml hown hlocks hnm hts hP hK hD hN hsz hA hS ls hl
  subst hsz
  have hl : lv_has ls 2 [(0, .int 0), (1, .int n)] := hl
  have hiX2 : ∀ w ∈ wsX20, w ∈ wsX10_newGang := fun _ h => List.mem_cons_of_mem _ (List.mem_append_right _ (h))
  generalize hQ : MQ _ _ _ _ _ _ _ = Q
  refine lv_iload_n hx hb dX10_newGang_0 rfl (lv_at hl 0 rfl) ?_
  refine lv_lookup (off := 45) (tgt := 46) hx hb dX10_newGang_1 (by decide) (by decide) (by decide) ?_
  refine va_new (ci := 2) (fs := [.int 0, .int 0, .int 0, .long 0]) (C := RX2) (T := TX2) (N := 4) hx hb hts hiX2 tyX2 tyX2_ok hown (hts (.classLink RX10 24 RX2) (List.mem_of_getElem? (i := 7) rfl)) (hts (.instantiable RX2 4) (List.mem_of_getElem? (i := 8) rfl)) (hts (.initialized RX2) (List.mem_of_getElem? (i := 9) rfl)) hK hP hD hS hA rfl (fun j hj => by rcases (show j = 0 ∨ j = 1 ∨ j = 2 ∨ j = 3 by omega) with rfl | rfl | rfl | rfl <;> rfl) (Nat.le_of_ble_eq_true rfl) (Nat.le_of_ble_eq_true rfl) dX10_newGang_46 (fun qg H hP hD hS => ?_)
  have hP : va_P (dC, dI) vwCl [(qg, .inr (2, [.int 0, .int 0, .int 0, .long 0]))] H := hP
  have hD : va_D _ [(qg, .inr (2, [.int 0, .int 0, .int 0, .long 0]))] := hD
  refine lv_dup hx hb dX10_newGang_49 rfl ?_
  refine lv_iload_n hx hb dX10_newGang_50 rfl (lv_at hl 1 rfl) ?_
  have hPc := hP.sub (ws' := [(qg, .inr (2, [.int 0, .int 0, .int 0, .long 0]))]) [0] rfl
  have hDc := hD.sub (ws' := [(qg, .inr (2, [.int 0, .int 0, .int 0, .long 0]))]) [0] (by decide) rfl
  have hKc := hK.sub (tys' := []) [] rfl
  have hFc := va_free (wc := [(qg, .inr (2, [.int 0, .int 0, .int 0, .long 0]))]) hD hS hA [0] rfl
  refine va_callv (va_runI (As := [.int n]) (rest := [.ref qg]) ⟨hx, hb, hml, hown, hts⟩ (c_X2_init l dC dI  _ qg n ) (cwI 1 hts gX10_newGang_X2_init rfl rfl rfl (hts (.initialized RX2) (List.mem_of_getElem? (i := 9) rfl)) (hts (.methodLink RX10 158 yX2_init) (List.mem_of_getElem? (i := 24) rfl)) (hts (.instanceMethod yX2_init) (List.mem_of_getElem? (i := 17) rfl)) rfl (by decide +kernel) ⟨Nat.le_of_ble_eq_true rfl, Nat.le_of_ble_eq_true rfl⟩) (pw_preS hPc hKc hDc hN) rfl rfl hl.1 rfl (lv_room (Nat.le_of_ble_eq_true rfl)) dX10_newGang_51 ⟨Nat.le_of_ble_eq_true rfl, Nat.le_of_ble_eq_true rfl⟩) hS (fun q _ h => hFc q h) hFc (fun u t H1 locs ht hvm hw hB hz1 hk1 hS => ?_)
  obtain ⟨hP1, hK1, hD1⟩ := hB
  rw [ht] at hP1
  obtain ⟨hP, hD⟩ := va_join (wr := []) (w1 := [(qg, .inr (2, [.int n, .int 0, .int 0, .long 0]))]) hP hD [0] [] rfl rfl (by decide) (by decide) hk1 hFc hP1 hD1
  generalize H1 = H at hP hS ⊢
  have hP : va_P (dC, dI) vwCl [(qg, .inr (2, [.int n, .int 0, .int 0, .long 0]))] H := hP
  have hD : va_D _ [(qg, .inr (2, [.int n, .int 0, .int 0, .long 0]))] := hD
  subst hQ
  have hP9 := hP.sub (ws' := [(qg, .inr (2, [.int n, .int 0, .int 0, .long 0]))]) [0] rfl
  have hD9 := hD.sub (ws' := [(qg, .inr (2, [.int n, .int 0, .int 0, .long 0]))]) [0] (by decide) rfl
  have hK9 := hK.sub (tys' := []) [] rfl
  exact W.aret (v := .ref qg) hx hb hr (Or.inl ⟨_, rfl⟩) (Or.inr ⟨_, rfl⟩) (fun t ht hW => ⟨⟨(), qg, rfl, trivial, by rw [ht]; exact hP9, va_K.moved hW.alike hK9, hD9⟩, hS.F ht⟩) hS.2.2 dX10_newGang_54
set_option maxHeartbeats 4000000 in
set_option maxRecDepth 100000 in
theorem s_isOfKind_1 (l : Launch) (dC : Nat → ClassId) (dI : Nat → Nat → Nat)  (sz : Nat) (qg : Nat) (gn : Int32) (gt : Int32) (gl : Int32) (ow : Int64) (k : Int32)  : Met l yX10_isOfKind wsX10_isOfKind ({ frames := 0, cells := 0, slots := 0, locals := 0 }) (pw (dC, dI) [] [(qg, .inr (1, [.int gn, .int gt, .int gl, .long ow]))] sz [.ref qg, .int k]) (vp_Si (fun r => r = if ¬ (k = 2) then 1 else 0)) 0 0 (fun _ => False) := by
  refine pw_met (cc := cX10_isOfKind) (maxL := 2) (ret := (some .boolean)) (by decide) rfl (Nat.le_of_ble_eq_true rfl) ?_
  intro p e s m below meth c0 hx hb hr hml hown hlocks hnm hts hP hK hD hN hsz hA hS ls hl
  have hl : lv_has ls 2 [(0, .ref qg), (1, .int k)] := hl
  generalize hQ : MQ _ _ _ _ _ _ _ = Q
  refine lv_iload_n hx hb dX10_isOfKind_0 rfl (lv_at hl 1 rfl) ?_
  by_cases hw1 : k = 1
  · subst hw1
    refine lv_lookup (off := 32) (tgt := 33) hx hb dX10_isOfKind_1 (by decide) (by decide) (by decide) ?_
    refine lv_aload_n hx hb dX10_isOfKind_33 rfl (lv_at hl 0 rfl) ?_
    refine va_instS hx hb hown (hts (.classLink RX10 155 RX1) (by decide +kernel)) ((hK.1 1 _ rfl).2) (va_recv hK hP (ci := 1) (q0 := 0) rfl rfl) dX10_isOfKind_34 ?_
    subst hQ
    exact W.zret (v := 1) hx hb hr rfl (fun t ht hW => ⟨1, rfl, (by simp), ht⟩) (fun q h => absurd h List.not_mem_nil) dX10_isOfKind_37
  by_cases hw2 : k = 2
  · subst hw2
    refine lv_lookup (off := 27) (tgt := 28) hx hb dX10_isOfKind_1 (by decide) (by decide) (by decide) ?_
    refine lv_aload_n hx hb dX10_isOfKind_28 rfl (lv_at hl 0 rfl) ?_
    refine va_instNo hx hb hown (hts (.classLink RX10 150 RX4) (by decide +kernel)) hN.2.2.2.2.2.1 (va_recv hK hP (ci := 1) (q0 := 0) rfl rfl) dX10_isOfKind_29 ?_
    subst hQ
    exact W.zret (v := 0) hx hb hr rfl (fun t ht hW => ⟨0, rfl, (by simp), ht⟩) (fun q h => absurd h List.not_mem_nil) dX10_isOfKind_32
  refine lv_lookup (off := 37) (tgt := 38) hx hb dX10_isOfKind_1 (by decide) (by rw [lv_osw hw1 (by decide), lv_osw hw2 (by decide)]; rfl) (by decide) ?_
  refine lv_iconst (v := 1) hx hb dX10_isOfKind_38 (by decide) ?_
  subst hQ
  exact W.zret (v := 1) hx hb hr rfl (fun t ht hW => ⟨1, rfl, (by simp [hw1, hw2]), ht⟩) (fun q h => absurd h List.not_mem_nil) dX10_isOfKind_39
set_option maxHeartbeats 4000000 in
set_option maxRecDepth 100000 in
theorem s_isOfKind_2 (l : Launch) (dC : Nat → ClassId) (dI : Nat → Nat → Nat)  (sz : Nat) (qg : Nat) (gn : Int32) (gt : Int32) (gl : Int32) (ow : Int64) (k : Int32)  : Met l yX10_isOfKind wsX10_isOfKind ({ frames := 0, cells := 0, slots := 0, locals := 0 }) (pw (dC, dI) [] [(qg, .inr (2, [.int gn, .int gt, .int gl, .long ow]))] sz [.ref qg, .int k]) (vp_Si (fun r => r = if ¬ (k = 2 ∨ k = 1) then 1 else 0)) 0 0 (fun _ => False) := by
  refine pw_met (cc := cX10_isOfKind) (maxL := 2) (ret := (some .boolean)) (by decide) rfl (Nat.le_of_ble_eq_true rfl) ?_
  intro p e s m below meth c0 hx hb hr hml hown hlocks hnm hts hP hK hD hN hsz hA hS ls hl
  have hl : lv_has ls 2 [(0, .ref qg), (1, .int k)] := hl
  generalize hQ : MQ _ _ _ _ _ _ _ = Q
  refine lv_iload_n hx hb dX10_isOfKind_0 rfl (lv_at hl 1 rfl) ?_
  by_cases hw1 : k = 1
  · subst hw1
    refine lv_lookup (off := 32) (tgt := 33) hx hb dX10_isOfKind_1 (by decide) (by decide) (by decide) ?_
    refine lv_aload_n hx hb dX10_isOfKind_33 rfl (lv_at hl 0 rfl) ?_
    refine va_instNo hx hb hown (hts (.classLink RX10 155 RX1) (by decide +kernel)) hN.2.2.2.2.2.2.1 (va_recv hK hP (ci := 2) (q0 := 0) rfl rfl) dX10_isOfKind_34 ?_
    subst hQ
    exact W.zret (v := 0) hx hb hr rfl (fun t ht hW => ⟨0, rfl, (by simp), ht⟩) (fun q h => absurd h List.not_mem_nil) dX10_isOfKind_37
  by_cases hw2 : k = 2
  · subst hw2
    refine lv_lookup (off := 27) (tgt := 28) hx hb dX10_isOfKind_1 (by decide) (by decide) (by decide) ?_
    refine lv_aload_n hx hb dX10_isOfKind_28 rfl (lv_at hl 0 rfl) ?_
    refine va_instNo hx hb hown (hts (.classLink RX10 150 RX4) (by decide +kernel)) hN.2.2.2.2.2.2.2 (va_recv hK hP (ci := 2) (q0 := 0) rfl rfl) dX10_isOfKind_29 ?_
    subst hQ
    exact W.zret (v := 0) hx hb hr rfl (fun t ht hW => ⟨0, rfl, (by simp), ht⟩) (fun q h => absurd h List.not_mem_nil) dX10_isOfKind_32
  refine lv_lookup (off := 37) (tgt := 38) hx hb dX10_isOfKind_1 (by decide) (by rw [lv_osw hw1 (by decide), lv_osw hw2 (by decide)]; rfl) (by decide) ?_
  refine lv_iconst (v := 1) hx hb dX10_isOfKind_38 (by decide) ?_
  subst hQ
  exact W.zret (v := 1) hx hb hr rfl (fun t ht hW => ⟨1, rfl, (by simp [hw1, hw2]), ht⟩) (fun q h => absurd h List.not_mem_nil) dX10_isOfKind_39
set_option maxHeartbeats 4000000 in
set_option maxRecDepth 100000 in
theorem s_isOfKind_4 (l : Launch) (dC : Nat → ClassId) (dI : Nat → Nat → Nat)  (sz : Nat) (qg : Nat) (gn : Int32) (gt : Int32) (gl : Int32) (ow : Int64) (k : Int32)  : Met l yX10_isOfKind wsX10_isOfKind ({ frames := 0, cells := 0, slots := 0, locals := 0 }) (pw (dC, dI) [] [(qg, .inr (4, [.int gn, .int gt, .int gl, .long ow]))] sz [.ref qg, .int k]) (vp_Si (fun r => r = if k = k then 1 else 0)) 0 0 (fun _ => False) := by
  refine pw_met (cc := cX10_isOfKind) (maxL := 2) (ret := (some .boolean)) (by decide) rfl (Nat.le_of_ble_eq_true rfl) ?_
  intro p e s m below meth c0 hx hb hr hml hown hlocks hnm hts hP hK hD hN hsz hA hS ls hl
  have hl : lv_has ls 2 [(0, .ref qg), (1, .int k)] := hl
  generalize hQ : MQ _ _ _ _ _ _ _ = Q
  refine lv_iload_n hx hb dX10_isOfKind_0 rfl (lv_at hl 1 rfl) ?_
  by_cases hw1 : k = 1
  · subst hw1
    refine lv_lookup (off := 32) (tgt := 33) hx hb dX10_isOfKind_1 (by decide) (by decide) (by decide) ?_
    refine lv_aload_n hx hb dX10_isOfKind_33 rfl (lv_at hl 0 rfl) ?_
    refine va_instY hx hb hown (hts (.classLink RX10 155 RX1) (by decide +kernel)) hN.2.2.2.2.1 (va_recv hK hP (ci := 4) (q0 := 0) rfl rfl) dX10_isOfKind_34 ?_
    subst hQ
    exact W.zret (v := 1) hx hb hr rfl (fun t ht hW => ⟨1, rfl, (by simp), ht⟩) (fun q h => absurd h List.not_mem_nil) dX10_isOfKind_37
  by_cases hw2 : k = 2
  · subst hw2
    refine lv_lookup (off := 27) (tgt := 28) hx hb dX10_isOfKind_1 (by decide) (by decide) (by decide) ?_
    refine lv_aload_n hx hb dX10_isOfKind_28 rfl (lv_at hl 0 rfl) ?_
    refine va_instS hx hb hown (hts (.classLink RX10 150 RX4) (by decide +kernel)) ((hK.1 4 _ rfl).2) (va_recv hK hP (ci := 4) (q0 := 0) rfl rfl) dX10_isOfKind_29 ?_
    subst hQ
    exact W.zret (v := 1) hx hb hr rfl (fun t ht hW => ⟨1, rfl, (by simp), ht⟩) (fun q h => absurd h List.not_mem_nil) dX10_isOfKind_32
  refine lv_lookup (off := 37) (tgt := 38) hx hb dX10_isOfKind_1 (by decide) (by rw [lv_osw hw1 (by decide), lv_osw hw2 (by decide)]; rfl) (by decide) ?_
  refine lv_iconst (v := 1) hx hb dX10_isOfKind_38 (by decide) ?_
  subst hQ
  exact W.zret (v := 1) hx hb hr rfl (fun t ht hW => ⟨1, rfl, (by simp [hw1, hw2]), ht⟩) (fun q h => absurd h List.not_mem_nil) dX10_isOfKind_39
set_option maxHeartbeats 4000000 in
set_option maxRecDepth 100000 in
theorem s_foretoldBy (l : Launch) (dC : Nat → ClassId) (dI : Nat → Nat → Nat) (cI : ClassId) (sz : Nat) (qp : Nat) (ga : Nat) (p0 : Value) (p6 : Value) (p7 : Value) (x : Int32) (y : Int32) (xx : Int32) (yy : Int32) (xa : Nat) (wa : Nat) (ya : Nat) (ha : Nat) (tn : Int32) (g : Nat → Int32) (ex : x = nI xa) (exx : xx = nI (xa + wa)) (ey : y = nI ya) (eyy : yy = nI (ya + ha)) (hxw : xa + wa ≤ 7) (hyh : ya + ha ≤ 5) : Met l yX6_foretoldBy wsX6_foretoldBy ({ frames := 1, cells := 0, slots := 0, locals := 30 }) (pw (dC, dI) [(cI, .int)] [(qp, .inr (6, [p0, .int x, .int y, .int xx, .int yy, .int tn, p6, p7])), (ga, .inl (cI, 48, .inl g))] sz [.ref qp, .ref ga]) (vp_Sl (fun r => r = pacc g xa wa ya (ha + 1) * tn.toInt64)) 0 0 (fun _ => False) := by
  refine pw_met (cc := cX6_foretoldBy) (maxL := 6) (ret := (some .long)) (by decide) rfl (Nat.le_of_ble_eq_true rfl) ?_
  intro p e s m below meth c0 hx hb hr hml hown hlocks hnm hts hP hK hD hN hsz hA hS ls hl
  have hl : lv_has ls 6 [(0, .ref qp), (1, .ref ga)] := hl
  have hiX6 : ∀ w ∈ wsX60, w ∈ wsX6_foretoldBy := fun _ h => List.mem_cons_of_mem _ (List.mem_append_right _ (h))
  generalize hQ : MQ _ _ _ _ _ _ _ = Q
  subst ex
  subst exx
  subst ey
  subst eyy
  have hP : va_P (dC, dI) vwCl [(qp, .inr (6, [p0, .int (nI xa), .int (nI ya), .int (nI (xa + wa)), .int (nI (ya + ha)), .int tn, p6, p7])), (ga, .inl (cI, 48, .inl g))] s.heap := hP
  have hD : va_D _ [(qp, .inr (6, [p0, .int (nI xa), .int (nI ya), .int (nI (xa + wa)), .int (nI (ya + ha)), .int tn, p6, p7])), (ga, .inl (cI, 48, .inl g))] := hD
  refine lv_lconst (v := 0) hx hb dX6_foretoldBy_0 (by decide) ?_
  refine lv_lstore_n (lv' := [(2, .long 0), (0, .ref qp), (1, .ref ga)]) hx hb dX6_foretoldBy_1 rfl hl (by decide) rfl (fun ls hl => ?_)
  refine lv_aload_n hx hb dX6_foretoldBy_2 rfl (lv_at hl 1 rfl) ?_
  refine va_get (D := (dC, dI)) (ci := 6) (v := .int (nI ya)) (C := RX6) (T := TX6) (N := 8) hx hb hts hiX6 hown hK hP 0 rfl rfl 2 (by decide) (hts (.fieldLink RX6 16 "TributePitches$Pitch" "y" "I") (List.mem_of_getElem? (i := 1) rfl)) (fun _ h9 => h9) rfl dX6_foretoldBy_3 ?_
  refine lv_istore (lv' := [(4, .int (nI ya)), (2, .long 0), (0, .ref qp), (1, .ref ga)]) hx hb dX6_foretoldBy_6 hl (by decide) rfl (fun ls hl => ?_)
  have loop8 : ∀ (ni8 i8 : Nat) (ls : Array Slot), i8 ≤ (ha + 1) → (ha + 1) + 1 ≤ i8 + ni8 → lv_has ls 6 [(4, .int (nI (ya + i8))), (2, .long (pacc g xa wa ya i8)), (0, .ref qp), (1, .ref ga)] → W p l e ({ frames := 1, cells := 0, slots := 0, locals := 30 } : Room) s m ([.ref qp, .ref ga] : List Value).toArray below meth c0 s.heap [] 0 0 Q (F0 m 8 ls []) := by
    intro ni8
    induction ni8 with
    | zero =>
      intro i8  ls h1 h2
      exact absurd h2 (by omega)
    | succ ni8 ihi8 =>
      intro i8  ls hlei8 hni8  hl
      refine lv_iload hx hb dX6_foretoldBy_8 (lv_at hl 0 rfl) ?_
      refine lv_aload_n hx hb dX6_foretoldBy_10 rfl (lv_at hl 2 rfl) ?_
      refine va_get (D := (dC, dI)) (ci := 6) (v := .int (nI (ya + ha))) (C := RX6) (T := TX6) (N := 8) hx hb hts hiX6 hown hK hP 0 rfl rfl 4 (by decide) (hts (.fieldLink RX6 22 "TributePitches$Pitch" "y2" "I") (List.mem_of_getElem? (i := 2) rfl)) (fun _ h9 => h9) rfl dX6_foretoldBy_11 ?_
      refine lv_icmp_gt (tgt := 57) hx hb dX6_foretoldBy_14 (by decide) (fun c1 => ?_) (fun c1 => ?_)
      · skip
        have hei8 : i8 = ha + 1 := (by have q := nI_lt_of (by omega) (by omega) c1; omega)
        subst hei8
        refine lv_lload_n hx hb dX6_foretoldBy_57 rfl (lv_at hl 1 rfl) ?_
        refine lv_aload_n hx hb dX6_foretoldBy_58 rfl (lv_at hl 2 rfl) ?_
        refine va_get (D := (dC, dI)) (ci := 6) (v := .int tn) (C := RX6) (T := TX6) (N := 8) hx hb hts hiX6 hown hK hP 0 rfl rfl 5 (by decide) (hts (.fieldLink RX6 25 "TributePitches$Pitch" "tons" "I") (List.mem_of_getElem? (i := 5) rfl)) (fun _ h9 => h9) rfl dX6_foretoldBy_59 ?_
        refine lv_i2l (v := tn.toInt64) hx hb dX6_foretoldBy_62 rfl ?_
        refine lv_lmul hx hb dX6_foretoldBy_63 ?_
        subst hQ
        exact W.lret (v := (pacc g xa wa ya (ha + 1)) * tn.toInt64) hx hb hr (fun t ht hW => ⟨(pacc g xa wa ya (ha + 1)) * tn.toInt64, rfl, rfl, ht⟩) (fun q h => absurd h List.not_mem_nil) dX6_foretoldBy_64
      · skip
        have hlti8 : i8 ≤ ha := (by have q := nI_ge_of (by omega) (by omega) c1; omega)
        refine lv_aload_n hx hb dX6_foretoldBy_17 rfl (lv_at hl 2 rfl) ?_
        refine va_get (D := (dC, dI)) (ci := 6) (v := .int (nI xa)) (C := RX6) (T := TX6) (N := 8) hx hb hts hiX6 hown hK hP 0 rfl rfl 1 (by decide) (hts (.fieldLink RX6 13 "TributePitches$Pitch" "x" "I") (List.mem_of_getElem? (i := 3) rfl)) (fun _ h9 => h9) rfl dX6_foretoldBy_18 ?_
        refine lv_istore (lv' := [(5, .int (nI xa)), (4, .int (nI (ya + i8))), (2, .long (pacc g xa wa ya i8)), (0, .ref qp), (1, .ref ga)]) hx hb dX6_foretoldBy_21 hl (by decide) rfl (fun ls hl => ?_)
        have loop23 : ∀ (ni23 i23 : Nat) (ls : Array Slot), i23 ≤ (wa + 1) → (wa + 1) + 1 ≤ i23 + ni23 → lv_has ls 6 [(5, .int (nI (xa + i23))), (4, .int (nI (ya + i8))), (2, .long (racc g (8 * (ya + i8) + xa) (pacc g xa wa ya i8) i23)), (0, .ref qp), (1, .ref ga)] → W p l e ({ frames := 1, cells := 0, slots := 0, locals := 30 } : Room) s m ([.ref qp, .ref ga] : List Value).toArray below meth c0 s.heap [] 0 0 Q (F0 m 23 ls []) := by
          intro ni23
          induction ni23 with
          | zero =>
            intro i23  ls h1 h2
            exact absurd h2 (by omega)
          | succ ni23 ihi23 =>
            intro i23  ls hlei23 hni23  hl
            refine lv_iload hx hb dX6_foretoldBy_23 (lv_at hl 0 rfl) ?_
            refine lv_aload_n hx hb dX6_foretoldBy_25 rfl (lv_at hl 3 rfl) ?_
            refine va_get (D := (dC, dI)) (ci := 6) (v := .int (nI (xa + wa))) (C := RX6) (T := TX6) (N := 8) hx hb hts hiX6 hown hK hP 0 rfl rfl 3 (by decide) (hts (.fieldLink RX6 19 "TributePitches$Pitch" "x2" "I") (List.mem_of_getElem? (i := 4) rfl)) (fun _ h9 => h9) rfl dX6_foretoldBy_26 ?_
            refine lv_icmp_gt (tgt := 51) hx hb dX6_foretoldBy_29 (by decide) (fun c2 => ?_) (fun c2 => ?_)
            · skip
              have hei23 : i23 = wa + 1 := (by have q := nI_lt_of (by omega) (by omega) c2; omega)
              subst hei23
              refine lv_iinc (v := nI (ya + (i8 + 1))) (lv' := [(4, .int (nI (ya + (i8 + 1)))), (5, .int (nI (xa + (wa + 1)))), (2, .long (racc g (8 * (ya + i8) + xa) (pacc g xa wa ya i8) (wa + 1))), (0, .ref qp), (1, .ref ga)]) hx hb dX6_foretoldBy_51 hl (k := 1) rfl (nI_1 _) (by decide) rfl (fun ls hl => ?_)
              refine lv_goto (tgt := 8) hx hb dX6_foretoldBy_54 (by decide) ?_
              have hl : lv_has ls 6 [(4, .int (nI (ya + (i8 + 1)))), (5, .int (nI (xa + (wa + 1)))), (2, .long (pacc g xa wa ya (i8 + 1))), (0, .ref qp), (1, .ref ga)] := hl
              exact ihi8 (i8 + 1)  ls (by omega) (by omega)  (lv_sub hl [0, 2, 3, 4] rfl)
            · skip
              have hlti23 : i23 ≤ wa := (by have q := nI_ge_of (by omega) (by omega) c2; omega)
              refine lv_lload_n hx hb dX6_foretoldBy_32 rfl (lv_at hl 2 rfl) ?_
              refine lv_aload_n hx hb dX6_foretoldBy_33 rfl (lv_at hl 4 rfl) ?_
              refine lv_iload hx hb dX6_foretoldBy_34 (lv_at hl 0 rfl) ?_
              refine lv_iload hx hb dX6_foretoldBy_36 (lv_at hl 1 rfl) ?_
              refine vp_callSi (va_Run.run (va_runS (As := [.int (nI (xa + i23)), .int (nI (ya + i8))]) (rest := [.ref ga, .long (racc g (8 * (ya + i8) + xa) (pacc g xa wa ya i8) i23)]) ⟨hx, hb, hml, hown, hts⟩ (c_X3_numberOf l (nI (xa + i23)) (nI (ya + i8)) ) (va_cwS 2 hts gX6_foretoldBy_X3_numberOf rfl rfl rfl (by decide +kernel) ⟨Nat.le_of_ble_eq_true rfl, Nat.le_of_ble_eq_true rfl⟩) (p0_preS hN) rfl rfl hl.1 rfl (lv_room (Nat.le_of_ble_eq_true rfl)) dX6_foretoldBy_38 ⟨Nat.le_of_ble_eq_true rfl, Nat.le_of_ble_eq_true rfl⟩)) (fun r3 hr3 => ?_)
              have hr3 : r3 = 8 * (nI (ya + i8)) + (nI (xa + i23)) := hr3
              rw [sqn] at hr3
              subst hr3
              refine va_iald hx hb hK hP 1 0 rfl rfl (vp_in_nI (by omega) (by omega)) dX6_foretoldBy_41 ?_
              refine lv_topi (fun v4 ev4 => ?_)
              have ev4 : v4 = g (8 * (ya + i8) + xa + i23) := by rw [ev4]; rw [nI_clamp (by omega), Nat.add_assoc]
              subst ev4
              refine lv_i2l (v := (g (8 * (ya + i8) + xa + i23)).toInt64) hx hb dX6_foretoldBy_42 rfl ?_
              refine lv_ladd hx hb dX6_foretoldBy_43 ?_
              refine lv_topl (fun vs evs => ?_)
              have evs : vs = racc g (8 * (ya + i8) + xa) (pacc g xa wa ya i8) (i23 + 1) := by rw [evs]; rfl
              subst evs
              refine lv_lstore_n (lv' := [(2, .long (racc g (8 * (ya + i8) + xa) (pacc g xa wa ya i8) (i23 + 1))), (5, .int (nI (xa + i23))), (4, .int (nI (ya + i8))), (0, .ref qp), (1, .ref ga)]) hx hb dX6_foretoldBy_44 rfl hl (by decide) rfl (fun ls hl => ?_)
              refine lv_iinc (v := nI (xa + (i23 + 1))) (lv' := [(5, .int (nI (xa + (i23 + 1)))), (2, .long (racc g (8 * (ya + i8) + xa) (pacc g xa wa ya i8) (i23 + 1))), (4, .int (nI (ya + i8))), (0, .ref qp), (1, .ref ga)]) hx hb dX6_foretoldBy_45 hl (k := 1) rfl (nI_1 _) (by decide) rfl (fun ls hl => ?_)
              refine lv_goto (tgt := 23) hx hb dX6_foretoldBy_48 (by decide) ?_
              exact ihi23 (i23 + 1)  ls (by omega) (by omega)  (lv_sub hl [0, 2, 1, 3, 4] rfl)
        exact loop23 ((wa + 1) + 1 - 0) 0  ls (by omega) (by omega)  (lv_sub hl [0, 1, 2, 3, 4] rfl)
  exact loop8 ((ha + 1) + 1 - 0) 0  ls (by omega) (by omega)  (lv_sub hl [0, 1, 2, 3] rfl)
set_option maxHeartbeats 4000000 in
set_option maxRecDepth 100000 in
theorem s_greatestOf (l : Launch) (dC : Nat → ClassId) (dI : Nat → Nat → Nat) (cI : ClassId) (sz : Nat) (qp : Nat) (ga : Nat) (p0 : Value) (p5 : Value) (p6 : Value) (p7 : Value) (x : Int32) (y : Int32) (xx : Int32) (yy : Int32) (xa : Nat) (wa : Nat) (ya : Nat) (ha : Nat) (g : Nat → Int32) (ex : x = nI xa) (exx : xx = nI (xa + wa)) (ey : y = nI ya) (eyy : yy = nI (ya + ha)) (hxw : xa + wa ≤ 7) (hyh : ya + ha ≤ 5) : Met l yX6_greatestOf wsX6_greatestOf ({ frames := 1, cells := 0, slots := 0, locals := 30 }) (pw (dC, dI) [(cI, .int)] [(qp, .inr (6, [p0, .int x, .int y, .int xx, .int yy, p5, p6, p7])), (ga, .inl (cI, 48, .inl g))] sz [.ref qp, .ref ga]) (vp_Si (fun r => r = pmax g xa wa ya (ha + 1))) 0 0 (fun _ => False) := by
  refine pw_met (cc := cX6_greatestOf) (maxL := 5) (ret := (some .int)) (by decide) rfl (Nat.le_of_ble_eq_true rfl) ?_
  intro p e s m below meth c0 hx hb hr hml hown hlocks hnm hts hP hK hD hN hsz hA hS ls hl
  have hl : lv_has ls 5 [(0, .ref qp), (1, .ref ga)] := hl
  have hiX6 : ∀ w ∈ wsX60, w ∈ wsX6_greatestOf := fun _ h => List.mem_cons_of_mem _ (List.mem_append_right _ (h))
  generalize hQ : MQ _ _ _ _ _ _ _ = Q
  subst ex
  subst exx
  subst ey
  subst eyy
  have hP : va_P (dC, dI) vwCl [(qp, .inr (6, [p0, .int (nI xa), .int (nI ya), .int (nI (xa + wa)), .int (nI (ya + ha)), p5, p6, p7])), (ga, .inl (cI, 48, .inl g))] s.heap := hP
  have hD : va_D _ [(qp, .inr (6, [p0, .int (nI xa), .int (nI ya), .int (nI (xa + wa)), .int (nI (ya + ha)), p5, p6, p7])), (ga, .inl (cI, 48, .inl g))] := hD
  refine lv_iconst (v := 0) hx hb dX6_greatestOf_0 (by decide) ?_
  refine lv_istore_n (lv' := [(2, .int 0), (0, .ref qp), (1, .ref ga)]) hx hb dX6_greatestOf_1 rfl hl (by decide) rfl (fun ls hl => ?_)
  refine lv_aload_n hx hb dX6_greatestOf_2 rfl (lv_at hl 1 rfl) ?_
  refine va_get (D := (dC, dI)) (ci := 6) (v := .int (nI ya)) (C := RX6) (T := TX6) (N := 8) hx hb hts hiX6 hown hK hP 0 rfl rfl 2 (by decide) (hts (.fieldLink RX6 16 "TributePitches$Pitch" "y" "I") (List.mem_of_getElem? (i := 1) rfl)) (fun _ h9 => h9) rfl dX6_greatestOf_3 ?_
  refine lv_istore_n (lv' := [(3, .int (nI ya)), (2, .int 0), (0, .ref qp), (1, .ref ga)]) hx hb dX6_greatestOf_6 rfl hl (by decide) rfl (fun ls hl => ?_)
  have loop7 : ∀ (ni7 i7 : Nat) (ls : Array Slot), i7 ≤ (ha + 1) → (ha + 1) + 1 ≤ i7 + ni7 → lv_has ls 5 [(3, .int (nI (ya + i7))), (2, .int (pmax g xa wa ya i7)), (0, .ref qp), (1, .ref ga)] → W p l e ({ frames := 1, cells := 0, slots := 0, locals := 30 } : Room) s m ([.ref qp, .ref ga] : List Value).toArray below meth c0 s.heap [] 0 0 Q (F0 m 7 ls []) := by
    intro ni7
    induction ni7 with
    | zero =>
      intro i7  ls h1 h2
      exact absurd h2 (by omega)
    | succ ni7 ihi7 =>
      intro i7  ls hlei7 hni7  hl
      refine lv_iload_n hx hb dX6_greatestOf_7 rfl (lv_at hl 0 rfl) ?_
      refine lv_aload_n hx hb dX6_greatestOf_8 rfl (lv_at hl 2 rfl) ?_
      refine va_get (D := (dC, dI)) (ci := 6) (v := .int (nI (ya + ha))) (C := RX6) (T := TX6) (N := 8) hx hb hts hiX6 hown hK hP 0 rfl rfl 4 (by decide) (hts (.fieldLink RX6 22 "TributePitches$Pitch" "y2" "I") (List.mem_of_getElem? (i := 2) rfl)) (fun _ h9 => h9) rfl dX6_greatestOf_9 ?_
      refine lv_icmp_gt (tgt := 55) hx hb dX6_greatestOf_12 (by decide) (fun c1 => ?_) (fun c1 => ?_)
      · skip
        have hei7 : i7 = ha + 1 := (by have q := nI_lt_of (by omega) (by omega) c1; omega)
        subst hei7
        refine lv_iload_n hx hb dX6_greatestOf_55 rfl (lv_at hl 1 rfl) ?_
        subst hQ
        exact W.iret (v := pmax g xa wa ya (ha + 1)) hx hb hr (fun t ht hW => ⟨pmax g xa wa ya (ha + 1), rfl, rfl, ht⟩) (fun q h => absurd h List.not_mem_nil) dX6_greatestOf_56
      · skip
        have hlti7 : i7 ≤ ha := (by have q := nI_ge_of (by omega) (by omega) c1; omega)
        refine lv_aload_n hx hb dX6_greatestOf_15 rfl (lv_at hl 2 rfl) ?_
        refine va_get (D := (dC, dI)) (ci := 6) (v := .int (nI xa)) (C := RX6) (T := TX6) (N := 8) hx hb hts hiX6 hown hK hP 0 rfl rfl 1 (by decide) (hts (.fieldLink RX6 13 "TributePitches$Pitch" "x" "I") (List.mem_of_getElem? (i := 3) rfl)) (fun _ h9 => h9) rfl dX6_greatestOf_16 ?_
        refine lv_istore (lv' := [(4, .int (nI xa)), (3, .int (nI (ya + i7))), (2, .int (pmax g xa wa ya i7)), (0, .ref qp), (1, .ref ga)]) hx hb dX6_greatestOf_19 hl (by decide) rfl (fun ls hl => ?_)
        have loop21 : ∀ (ni21 i21 : Nat) (ls : Array Slot), i21 ≤ (wa + 1) → (wa + 1) + 1 ≤ i21 + ni21 → lv_has ls 5 [(4, .int (nI (xa + i21))), (3, .int (nI (ya + i7))), (2, .int (gacc g (8 * (ya + i7) + xa) (pmax g xa wa ya i7) i21)), (0, .ref qp), (1, .ref ga)] → W p l e ({ frames := 1, cells := 0, slots := 0, locals := 30 } : Room) s m ([.ref qp, .ref ga] : List Value).toArray below meth c0 s.heap [] 0 0 Q (F0 m 21 ls []) := by
          intro ni21
          induction ni21 with
          | zero =>
            intro i21  ls h1 h2
            exact absurd h2 (by omega)
          | succ ni21 ihi21 =>
            intro i21  ls hlei21 hni21  hl
            refine lv_iload hx hb dX6_greatestOf_21 (lv_at hl 0 rfl) ?_
            refine lv_aload_n hx hb dX6_greatestOf_23 rfl (lv_at hl 3 rfl) ?_
            refine va_get (D := (dC, dI)) (ci := 6) (v := .int (nI (xa + wa))) (C := RX6) (T := TX6) (N := 8) hx hb hts hiX6 hown hK hP 0 rfl rfl 3 (by decide) (hts (.fieldLink RX6 19 "TributePitches$Pitch" "x2" "I") (List.mem_of_getElem? (i := 4) rfl)) (fun _ h9 => h9) rfl dX6_greatestOf_24 ?_
            refine lv_icmp_gt (tgt := 49) hx hb dX6_greatestOf_27 (by decide) (fun c2 => ?_) (fun c2 => ?_)
            · skip
              have hei21 : i21 = wa + 1 := (by have q := nI_lt_of (by omega) (by omega) c2; omega)
              subst hei21
              refine lv_iinc (v := nI (ya + (i7 + 1))) (lv' := [(3, .int (nI (ya + (i7 + 1)))), (4, .int (nI (xa + (wa + 1)))), (2, .int (gacc g (8 * (ya + i7) + xa) (pmax g xa wa ya i7) (wa + 1))), (0, .ref qp), (1, .ref ga)]) hx hb dX6_greatestOf_49 hl (k := 1) rfl (nI_1 _) (by decide) rfl (fun ls hl => ?_)
              refine lv_goto (tgt := 7) hx hb dX6_greatestOf_52 (by decide) ?_
              have hl : lv_has ls 5 [(3, .int (nI (ya + (i7 + 1)))), (4, .int (nI (xa + (wa + 1)))), (2, .int (pmax g xa wa ya (i7 + 1))), (0, .ref qp), (1, .ref ga)] := hl
              exact ihi7 (i7 + 1)  ls (by omega) (by omega)  (lv_sub hl [0, 2, 3, 4] rfl)
            · skip
              have hlti21 : i21 ≤ wa := (by have q := nI_ge_of (by omega) (by omega) c2; omega)
              refine lv_iload_n hx hb dX6_greatestOf_30 rfl (lv_at hl 2 rfl) ?_
              refine lv_aload_n hx hb dX6_greatestOf_31 rfl (lv_at hl 4 rfl) ?_
              refine lv_iload hx hb dX6_greatestOf_32 (lv_at hl 0 rfl) ?_
              refine lv_iload_n hx hb dX6_greatestOf_34 rfl (lv_at hl 1 rfl) ?_
              refine vp_callSi (va_Run.run (va_runS (As := [.int (nI (xa + i21)), .int (nI (ya + i7))]) (rest := [.ref ga, .int (gacc g (8 * (ya + i7) + xa) (pmax g xa wa ya i7) i21)]) ⟨hx, hb, hml, hown, hts⟩ (c_X3_numberOf l (nI (xa + i21)) (nI (ya + i7)) ) (va_cwS 2 hts gX6_greatestOf_X3_numberOf rfl rfl rfl (by decide +kernel) ⟨Nat.le_of_ble_eq_true rfl, Nat.le_of_ble_eq_true rfl⟩) (p0_preS hN) rfl rfl hl.1 rfl (lv_room (Nat.le_of_ble_eq_true rfl)) dX6_greatestOf_35 ⟨Nat.le_of_ble_eq_true rfl, Nat.le_of_ble_eq_true rfl⟩)) (fun r3 hr3 => ?_)
              have hr3 : r3 = 8 * (nI (ya + i7)) + (nI (xa + i21)) := hr3
              rw [sqn] at hr3
              subst hr3
              refine va_iald hx hb hK hP 1 0 rfl rfl (vp_in_nI (by omega) (by omega)) dX6_greatestOf_38 ?_
              refine lv_topi (fun v4 ev4 => ?_)
              have ev4 : v4 = g (8 * (ya + i7) + xa + i21) := by rw [ev4]; rw [nI_clamp (by omega), Nat.add_assoc]
              subst ev4
              refine va_mmax hx hb (hml.trans hl.1.symm) hown (hts (.methodLink RX6 34 Lib.Math.max.name) (List.mem_of_getElem? (i := 5) rfl)) (hts (.static Lib.Math.max.name) (List.mem_of_getElem? (i := 6) rfl)) (hts (.initialized "java/lang/Math") (List.mem_of_getElem? (i := 7) rfl)) (hts (.code Lib.Math.max.name Lib.Math.max.code 2 (some .int)) (List.mem_of_getElem? (i := 8) rfl)) (Nat.le_of_ble_eq_true rfl) (Nat.le_of_ble_eq_true rfl) (Nat.le_of_ble_eq_true rfl) (Nat.le_of_ble_eq_true rfl) dX6_greatestOf_39 ?_
              refine W.eq (g2 := F0 m 42 ls [.int (gacc g (8 * (ya + i7) + xa) (pmax g xa wa ya i7) (i21 + 1))]) rfl ?_
              refine lv_istore_n (lv' := [(2, .int (gacc g (8 * (ya + i7) + xa) (pmax g xa wa ya i7) (i21 + 1))), (4, .int (nI (xa + i21))), (3, .int (nI (ya + i7))), (0, .ref qp), (1, .ref ga)]) hx hb dX6_greatestOf_42 rfl hl (by decide) rfl (fun ls hl => ?_)
              refine lv_iinc (v := nI (xa + (i21 + 1))) (lv' := [(4, .int (nI (xa + (i21 + 1)))), (2, .int (gacc g (8 * (ya + i7) + xa) (pmax g xa wa ya i7) (i21 + 1))), (3, .int (nI (ya + i7))), (0, .ref qp), (1, .ref ga)]) hx hb dX6_greatestOf_43 hl (k := 1) rfl (nI_1 _) (by decide) rfl (fun ls hl => ?_)
              refine lv_goto (tgt := 21) hx hb dX6_greatestOf_46 (by decide) ?_
              exact ihi21 (i21 + 1)  ls (by omega) (by omega)  (lv_sub hl [0, 2, 1, 3, 4] rfl)
        exact loop21 ((wa + 1) + 1 - 0) 0  ls (by omega) (by omega)  (lv_sub hl [0, 1, 2, 3, 4] rfl)
  exact loop7 ((ha + 1) + 1 - 0) 0  ls (by omega) (by omega)  (lv_sub hl [0, 1, 2, 3] rfl)
set_option maxHeartbeats 4000000 in
set_option maxRecDepth 100000 in
theorem s_isSuspect (l : Launch) (dC : Nat → ClassId) (dI : Nat → Nat → Nat) (cI : ClassId) (sz : Nat) (qk : Nat) (qp : Nat) (ql : Nat) (ga : Nat) (p0 : Value) (p5 : Value) (p6 : Value) (p7 : Value) (x : Int32) (y : Int32) (xx : Int32) (yy : Int32) (xa : Nat) (wa : Nat) (ya : Nat) (ha : Nat) (g : Nat → Int32) (u0 : Value) (u2 : Value) (u3 : Value) (u4 : Value) (go : Int32) (ex : x = nI xa) (exx : xx = nI (xa + wa)) (ey : y = nI ya) (eyy : yy = nI (ya + ha)) (hxw : xa + wa ≤ 7) (hyh : ya + ha ≤ 5) : Met l yX5_isSuspect wsX5_isSuspect ({ frames := 2, cells := 0, slots := 0, locals := 60 }) (pw (dC, dI) [(cI, .int)] [(qk, .inr (5, [.ref qp, .int go])), (qp, .inr (6, [p0, .int x, .int y, .int xx, .int yy, p5, p6, p7])), (ql, .inr (3, [u0, .ref ga, u2, u3, u4])), (ga, .inl (cI, 48, .inl g))] sz [.ref qk, .ref ql]) (vp_Si (fun r => r = if pmax g xa wa ya (ha + 1) < go then 1 else 0)) 0 0 (fun _ => False) := by
  refine pw_met (cc := cX5_isSuspect) (maxL := 2) (ret := (some .boolean)) (by decide) rfl (Nat.le_of_ble_eq_true rfl) ?_
  intro p e s m below meth c0 hx hb hr hml hown hlocks hnm hts hP hK hD hN hsz hA hS ls hl
  have hl : lv_has ls 2 [(0, .ref qk), (1, .ref ql)] := hl
  have hiX3 : ∀ w ∈ wsX30, w ∈ wsX5_isSuspect := fun _ h => List.mem_cons_of_mem _ (List.mem_append_left _ (List.mem_append_right _ (h)))
  have hiX5 : ∀ w ∈ wsX50, w ∈ wsX5_isSuspect := fun _ h => List.mem_cons_of_mem _ (List.mem_append_left _ (List.mem_append_left _ (List.mem_append_right _ (h))))
  generalize hQ : MQ _ _ _ _ _ _ _ = Q
  refine lv_aload_n hx hb dX5_isSuspect_0 rfl (lv_at hl 0 rfl) ?_
  refine va_get (D := (dC, dI)) (ci := 5) (v := .int go) (C := RX5) (T := TX5) (N := 2) hx hb hts hiX5 hown hK hP 0 rfl rfl 1 (by decide) (hts (.fieldLink RX5 13 "TributePitches$Parcel" "goodness" "I") (List.mem_of_getElem? (i := 1) rfl)) (fun _ h9 => h9) rfl dX5_isSuspect_1 ?_
  refine lv_aload_n hx hb dX5_isSuspect_4 rfl (lv_at hl 0 rfl) ?_
  refine va_get (D := (dC, dI)) (ci := 5) (v := .ref qp) (C := RX5) (T := TX5) (N := 2) hx hb hts hiX5 hown hK hP 0 rfl rfl 0 (by decide) (hts (.fieldLink RX5 7 "TributePitches$Parcel" "pitch" "LTributePitches$Pitch;") (List.mem_of_getElem? (i := 2) rfl)) (fun _ h9 => h9) rfl dX5_isSuspect_5 ?_
  refine lv_aload_n hx hb dX5_isSuspect_8 rfl (lv_at hl 1 rfl) ?_
  refine va_get (D := (dC, dI)) (ci := 3) (v := .ref ga) (C := RX3) (T := TX3) (N := 5) hx hb hts hiX3 hown hK hP 2 rfl rfl 1 (by decide) (hts (.fieldLink RX5 17 "TributePitches$Lode" "highs" "[I") (List.mem_of_getElem? (i := 3) rfl)) (fun _ h9 => h9) rfl dX5_isSuspect_9 ?_
  have hPc := hP.sub (ws' := [(qp, .inr (6, [p0, .int x, .int y, .int xx, .int yy, p5, p6, p7])), (ga, .inl (cI, 48, .inl g))]) [1, 3] rfl
  have hDc := hD.sub (ws' := [(qp, .inr (6, [p0, .int x, .int y, .int xx, .int yy, p5, p6, p7])), (ga, .inl (cI, 48, .inl g))]) [1, 3] (by decide) rfl
  have hKc := hK.sub (tys' := [(cI, .int)]) [0] rfl
  refine vp_callSi (va_Run.run (va_runV (As := [.ref ga]) (rest := [.int go]) ⟨hx, hb, hml, hown, hts⟩ (s_greatestOf l dC dI cI _ qp ga p0 p5 p6 p7 x y xx yy xa wa ya ha g ex exx ey eyy hxw hyh) (cwV 1 hts gX5_isSuspect_X6_greatestOf rfl rfl rfl (by decide +kernel) ⟨Nat.le_of_ble_eq_true rfl, Nat.le_of_ble_eq_true rfl⟩) (pw_preV (va_recv hKc hPc (ci := 6) (q0 := 0) rfl rfl) hPc hKc hDc hN) rfl rfl hl.1 rfl (lv_room (Nat.le_of_ble_eq_true rfl)) dX5_isSuspect_12 ⟨Nat.le_of_ble_eq_true rfl, Nat.le_of_ble_eq_true rfl⟩)) (fun r1 hr1 => ?_)
  have hr1 : r1 = pmax g xa wa ya (ha + 1) := hr1
  subst hr1
  refine lv_icmp_le (tgt := 22) hx hb dX5_isSuspect_15 (by decide) (fun c2 => ?_) (fun c2 => ?_)
  · skip
    refine lv_iconst (v := 0) hx hb dX5_isSuspect_22 (by decide) ?_
    subst hQ
    exact W.zret (v := 0) hx hb hr rfl (fun t ht hW => ⟨0, rfl, (by rw [if_neg (Int32.not_lt.mpr c2)]), ht⟩) (fun q h => absurd h List.not_mem_nil) dX5_isSuspect_23
  · skip
    refine lv_iconst (v := 1) hx hb dX5_isSuspect_18 (by decide) ?_
    refine lv_goto (tgt := 23) hx hb dX5_isSuspect_19 (by decide) ?_
    subst hQ
    exact W.zret (v := 1) hx hb hr rfl (fun t ht hW => ⟨1, rfl, (by rw [if_pos (Int32.not_le.mp c2)]), ht⟩) (fun q h => absurd h List.not_mem_nil) dX5_isSuspect_23
/-! short names of the class's cells -/
def cTP (z : CS) : Nat × va_E := (cs_X z 0 0, .inr (10, [.ref (cs_X z 0 1), .ref (cs_X z 0 6), .ref (cs_X z 0 7), .ref (cs_X z 0 8), .ref (cs_X z 0 9), .ref (cs_X z 0 10), .ref (cs_X z 0 11), .int (nI (cs_n z 0)), .int (nI (cs_n z 1)), .int (nI (cs_n z 2)), .int (nI (cs_n z 3)), va_rf (opN (cs_n z 4) (fun _ => cs_X z 5 0)), .int (cs_i z 2)]))
def cTPN (z : CS) : Nat × va_E := (cs_X z 0 0, .inr (10, [.ref (cs_X z 0 1), .ref (cs_X z 0 6), .ref (cs_X z 0 7), .ref (cs_X z 0 8), .ref (cs_X z 0 9), .ref (cs_X z 0 10), .ref (cs_X z 0 11), .int (nI (cs_n z 0)), .int (nI (cs_n z 1)), .int (nI (cs_n z 2)), .int (nI (cs_n z 3)), .null, .int (cs_i z 2)]))
def cTPA (z : CS) : Nat × va_E := (cs_X z 0 0, .inr (10, [.ref (cs_X z 0 1), .ref (cs_X z 0 6), .ref (cs_X z 0 7), .ref (cs_X z 0 8), .ref (cs_X z 0 9), .ref (cs_X z 0 10), .ref (cs_X z 0 11), .int (nI (cs_n z 0)), .int (nI (cs_n z 1)), .int (nI (cs_n z 2)), .int (nI (cs_n z 3)), .ref (cs_X z 5 0), .int (cs_i z 2)]))
def cLo (z : CS) : Nat × va_E := (cs_X z 0 1, .inr (3, [.ref (cs_X z 0 2), .ref (cs_X z 0 3), .ref (cs_X z 0 4), .ref (cs_X z 0 5), .int (cs_i z 0)]))
def cA2 (cA : Nat → ClassId) (z : CS) : Nat × va_E := (cs_X z 0 2, .inl (cA 0, 48, .inl (cs_I z 0)))
def cA3 (cA : Nat → ClassId) (z : CS) : Nat × va_E := (cs_X z 0 3, .inl (cA 0, 48, .inl (cs_I z 1)))
def cA4 (cA : Nat → ClassId) (z : CS) : Nat × va_E := (cs_X z 0 4, .inl (cA 0, 48, .inl (cs_I z 2)))
def cA5 (cA : Nat → ClassId) (z : CS) : Nat × va_E := (cs_X z 0 5, .inl (cA 0, 48, .inl (cs_I z 3)))
def cR6 (cA : Nat → ClassId) (z : CS) : Nat × va_E := (cs_X z 0 6, .inl (cA 1, 12, .inr (.inr (.inr (.inr (rfN (cs_n z 0) (cs_X z 1)))))))
def cR7 (cA : Nat → ClassId) (z : CS) : Nat × va_E := (cs_X z 0 7, .inl (cA 2, 8, .inr (.inr (.inr (.inr (rfN (cs_n z 1) (cs_X z 2)))))))
def cR8 (cA : Nat → ClassId) (z : CS) : Nat × va_E := (cs_X z 0 8, .inl (cA 3, 40, .inr (.inr (.inr (.inr (rfN (cs_n z 2) (cs_X z 3)))))))
def cR9 (cA : Nat → ClassId) (z : CS) : Nat × va_E := (cs_X z 0 9, .inl (cA 4, 80, .inr (.inr (.inr (.inr (rfN (cs_n z 3) (cs_X z 4)))))))
def cR10 (cA : Nat → ClassId) (z : CS) : Nat × va_E := (cs_X z 0 10, .inl (cA 5, 4, .inr (.inr (.inr (.inr (rfN 4 (cs_X z 6)))))))
def cTr (z : CS) : Nat × va_E := (cs_X z 0 11, .inr (9, [.int (cs_i z 1)]))
def cPiN (z : CS) (j : Nat) : Nat × va_E := (cs_X z 1 j, .inr (6, [.int (nI j), .int (cs_I z 11 j), .int (cs_I z 12 j), .int (cs_I z 13 j), .int (cs_I z 14 j), .int (cs_I z 15 j), .int (cs_I z 16 j), .null]))
def cPiT (z : CS) (j : Nat) : Nat × va_E := (cs_X z 1 j, .inr (6, [.int (nI j), .int (cs_I z 11 j), .int (cs_I z 12 j), .int (cs_I z 13 j), .int (cs_I z 14 j), .int (cs_I z 15 j), .int (cs_I z 16 j), .ref (cs_X z 3 (cs_N z 0 j - 1))]))
def cGaK (z : CS) (j k : Nat) : Nat × va_E := (cs_X z 2 j, .inr (k, [.int (nI j), .int (cs_I z 21 j), .int (cs_I z 22 j), .long (cs_L z 0 j)]))
def cAuN (z : CS) : Nat × va_E := (cs_X z 5 0, .inr (0, [.ref (cs_X z 1 (cs_n z 4 - 1)), .int (cs_i z 3), .int (cs_i z 4), .null]))
def cAuB (z : CS) : Nat × va_E := (cs_X z 5 0, .inr (0, [.ref (cs_X z 1 (cs_n z 4 - 1)), .int (cs_i z 3), .int (cs_i z 4), .ref (cs_X z 2 (cs_n z 5 - 1))]))
theorem vp_in_lt {i : Int32} {n : Nat} (h : vp_in i n) : i.toNatClampNeg < n := Nat.not_le.mp fun q => h (Or.inr q)
theorem sq_in {x y : Int32} (h : (0 ≤ x ∧ x ≤ 7) ∧ (0 ≤ y ∧ y ≤ 5)) : vp_in (8 * y + x) 48 := by
  obtain ⟨a, ha, rfl⟩ := nI_of2 (x := x) (M := 7) (n := 7) (by decide) (Int32.not_lt.mpr h.1.1) h.1.2
  obtain ⟨b, hb, rfl⟩ := nI_of2 (x := y) (M := 5) (n := 5) (by decide) (Int32.not_lt.mpr h.2.1) h.2.2
  have e : (8 : Int32) * nI b + nI a = nI (8 * b + a) := by
    rw [show (8 : Int32) * nI b = nI (8 * b) from pk_mul 8 b]
    exact nI_add _ _
  rw [e]
  exact vp_in_nI (by omega) (by omega)
section CWF
variable {cA : Nat → ClassId} {z : CS}
theorem kF_tp : cF cA z 0 0 = some (cTP z) := rfl
theorem kF_lo : cF cA z 0 1 = some (cLo z) := rfl
theorem kF_a2 : cF cA z 0 2 = some (cA2 cA z) := rfl
theorem kF_a3 : cF cA z 0 3 = some (cA3 cA z) := rfl
theorem kF_a4 : cF cA z 0 4 = some (cA4 cA z) := rfl
theorem kF_a5 : cF cA z 0 5 = some (cA5 cA z) := rfl
theorem kF_r6 : cF cA z 0 6 = some (cR6 cA z) := rfl
theorem kF_r7 : cF cA z 0 7 = some (cR7 cA z) := rfl
theorem kF_r8 : cF cA z 0 8 = some (cR8 cA z) := rfl
theorem kF_r9 : cF cA z 0 9 = some (cR9 cA z) := rfl
theorem kF_r10 : cF cA z 0 10 = some (cR10 cA z) := rfl
theorem kF_tr : cF cA z 0 11 = some (cTr z) := rfl
end CWF
theorem inv_settle {z : CS} {jt : Nat} {a b : Int32} {x y : Int64} (hI : invC z) : invC (cs_i z, cs_n z, va_up (va_up (cs_I z) 33 (va_up (cs_I z 33) jt a)) 22 (va_up (cs_I z 22) (cs_N z 2 jt) b), va_up (va_up (cs_L z) 6 (va_up (cs_L z 6) jt x)) 0 (va_up (cs_L z 0) (cs_N z 2 jt) y), va_up (cs_N z) 0 (va_up (cs_N z 0) (cs_N z 3 jt) 0), cs_S z, cs_X z) := by
  obtain ⟨h1, hpi, h2, h3, h4, h5⟩ := hI
  refine ⟨h1, fun p hp => ⟨(hpi p hp).1, (hpi p hp).2.1, ?_⟩, h2, h3, h4, h5⟩
  show va_up (cs_N z 0) (cs_N z 3 jt) 0 p ≤ cs_n z 2
  by_cases h : p = cs_N z 3 jt
  · rw [h, va_up_self]; exact Nat.zero_le _
  · rw [va_up_ne _ _ h]; exact (hpi p hp).2.2
theorem tb_out5 {w : Int32} (h0 : ¬ w = 0) (h1 : ¬ w = 1) (h2 : ¬ w = 2) (h3 : ¬ w = 3) (h4 : ¬ w = 4) : w.toInt < 0 ∨ 4 < w.toInt := by
  have e0 : ¬ w.toInt = 0 := fun q => h0 ((fa_eq _ _).mpr q)
  have e1 : ¬ w.toInt = 1 := fun q => h1 ((fa_eq _ _).mpr q)
  have e2 : ¬ w.toInt = 2 := fun q => h2 ((fa_eq _ _).mpr q)
  have e3 : ¬ w.toInt = 3 := fun q => h3 ((fa_eq _ _).mpr q)
  have e4 : ¬ w.toInt = 4 := fun q => h4 ((fa_eq _ _).mpr q)
  omega
theorem tb_out6 {w : Int32} (h0 : ¬ w = 0) (h1 : ¬ w = 1) (h2 : ¬ w = 2) (h3 : ¬ w = 3) (h4 : ¬ w = 4) (h5 : ¬ w = 5) : w.toInt < 0 ∨ 5 < w.toInt := by
  have e5 : ¬ w.toInt = 5 := fun q => h5 ((fa_eq _ _).mpr q)
  have := tb_out5 h0 h1 h2 h3 h4
  omega
theorem tb_out7 {w : Int32} (h0 : ¬ w = 0) (h1 : ¬ w = 1) (h2 : ¬ w = 2) (h3 : ¬ w = 3) (h4 : ¬ w = 4) (h5 : ¬ w = 5) (h6 : ¬ w = 6) : w.toInt < 0 ∨ 6 < w.toInt := by
  have e6 : ¬ w.toInt = 6 := fun q => h6 ((fa_eq _ _).mpr q)
  have := tb_out6 h0 h1 h2 h3 h4 h5
  omega
def pC_trace (zc : CS) (r : Int32) (u : CS) : Prop :=
  (r = (cs_i zc 1) ∧ u = zc)
set_option maxHeartbeats 4000000 in
set_option maxRecDepth 100000 in
theorem K_trace (l : Launch) (dC : Nat → ClassId) (dI : Nat → Nat → Nat) (cA : Nat → ClassId) (sz : Nat) (zc : CS) (hI : invC zc) : Met l yX10_trace wsX10_trace ({ frames := 1, cells := 0, slots := 0, locals := 30 }) (kw (dC, dI) (ctys cA) (cF cA zc) sz [.ref (cs_X zc 0 0)]) (kQi (dC, dI) (ctys cA) (cF cA zc) sz (cF cA) (fun r u => (invC u ∧ cs_X u 0 0 = cs_X zc 0 0) ∧ pC_trace zc r u)) 0 0 (kA (cF cA zc) sz) := by
  refine kw_met (cc := cX10_trace) (maxL := 1) (ret := (some .int)) (by decide) rfl (Nat.le_of_ble_eq_true rfl) ?_
  intro p e s m below meth c0 hx hb hr hml hown hlocks hnm hts hPk hKk hDk hN hsz ls hl
  subst hsz
  have hK : va_K (dC, dI) vwCl [(cA 0, .int), (cA 1, .object RX6), (cA 2, .object RX2), (cA 3, .object RX8), (cA 4, .object RX5), (cA 5, .object RX7)] s := hKk
  obtain ⟨⟨hn0, hn1, hn2, hn3, hn4, hn5⟩, hpi, hgk, htk, hpk, hsh⟩ := id hI
  have hl : lv_has ls 1 [(0, .ref (cs_X zc 0 0))] := hl
  have hiX10 : ∀ w ∈ wsX100, w ∈ wsX10_trace := fun _ h => List.mem_cons_of_mem _ (List.mem_append_left _ (List.mem_append_right _ (h)))
  have hiX9 : ∀ w ∈ wsX90, w ∈ wsX10_trace := fun _ h => List.mem_cons_of_mem _ (List.mem_append_right _ (h))
  generalize hQ : MQ _ _ _ _ _ _ _ = Q
  have hks : kAll (cF cA zc) [(0, 0), (0, 11)] [cTP zc, cTr zc] := ⟨(kF_tp (cA := cA) (z := zc)), (kF_tr (cA := cA) (z := zc)), trivial⟩
  have hP : va_P (dC, dI) vwCl [cTP zc, cTr zc] s.heap := kAll_P hPk hks
  have hD : va_D (va_A [cTP zc, cTr zc] s.heap.size) [cTP zc, cTr zc] := (kAll_D hDk hks (by simp)).self
  have hA : ∀ q : Nat, s.heap.size ≤ q → va_A [cTP zc, cTr zc] s.heap.size q := fun q h => Or.inr h
  have hS : va_S (va_A [cTP zc, cTr zc] s.heap.size) s.heap s.heap [] := va_S.rf
  refine lv_aload_n hx hb dX10_trace_0 rfl (lv_at hl 0 rfl) ?_
  refine va_get (D := (dC, dI)) (ci := 10) (v := .ref (cs_X zc 0 11)) (C := RX10) (T := TX10) (N := 13) hx hb hts hiX10 hown hK hP 0 rfl rfl 6 (by decide) (hts (.fieldLink RX10 52 "TributePitches" "steps" "LTributePitches$Trace;") (List.mem_of_getElem? (i := 1) rfl)) (fun _ h9 => h9) rfl dX10_trace_1 ?_
  refine va_get (D := (dC, dI)) (ci := 9) (v := .int (cs_i zc 1)) (C := RX9) (T := TX9) (N := 1) hx hb hts hiX9 hown hK hP 1 rfl rfl 0 (by decide) (hts (.fieldLink RX10 315 "TributePitches$Trace" "number" "I") (List.mem_of_getElem? (i := 2) rfl)) (fun _ h9 => h9) rfl dX10_trace_4 ?_
  subst hQ
  exact W.iret (v := cs_i zc 1) hx hb hr (fun t ht hW => ⟨⟨cs_i zc 1, zc, rfl, ⟨⟨hI, rfl⟩, ⟨rfl, rfl⟩⟩, (by rw [ht]; exact hPk), va_K.moved hW.alike hKk, kDA_self hDk⟩, (kw_same hPk ht).2⟩) (fun q h => absurd h List.not_mem_nil) dX10_trace_7
def pC_fault (zc : CS) (r : Int32) (u : CS) : Prop :=
  (r = (cs_i zc 2) ∧ u = zc)
set_option maxHeartbeats 4000000 in
set_option maxRecDepth 100000 in
theorem K_fault (l : Launch) (dC : Nat → ClassId) (dI : Nat → Nat → Nat) (cA : Nat → ClassId) (sz : Nat) (zc : CS) (hI : invC zc) : Met l yX10_fault wsX10_fault ({ frames := 1, cells := 0, slots := 0, locals := 30 }) (kw (dC, dI) (ctys cA) (cF cA zc) sz [.ref (cs_X zc 0 0)]) (kQi (dC, dI) (ctys cA) (cF cA zc) sz (cF cA) (fun r u => (invC u ∧ cs_X u 0 0 = cs_X zc 0 0) ∧ pC_fault zc r u)) 0 0 (kA (cF cA zc) sz) := by
  refine kw_met (cc := cX10_fault) (maxL := 1) (ret := (some .int)) (by decide) rfl (Nat.le_of_ble_eq_true rfl) ?_
  intro p e s m below meth c0 hx hb hr hml hown hlocks hnm hts hPk hKk hDk hN hsz ls hl
  subst hsz
  have hK : va_K (dC, dI) vwCl [(cA 0, .int), (cA 1, .object RX6), (cA 2, .object RX2), (cA 3, .object RX8), (cA 4, .object RX5), (cA 5, .object RX7)] s := hKk
  obtain ⟨⟨hn0, hn1, hn2, hn3, hn4, hn5⟩, hpi, hgk, htk, hpk, hsh⟩ := id hI
  have hl : lv_has ls 1 [(0, .ref (cs_X zc 0 0))] := hl
  have hiX10 : ∀ w ∈ wsX100, w ∈ wsX10_fault := fun _ h => List.mem_cons_of_mem _ (List.mem_append_right _ (h))
  generalize hQ : MQ _ _ _ _ _ _ _ = Q
  have hks : kAll (cF cA zc) [(0, 0)] [cTP zc] := ⟨(kF_tp (cA := cA) (z := zc)), trivial⟩
  have hP : va_P (dC, dI) vwCl [cTP zc] s.heap := kAll_P hPk hks
  have hD : va_D (va_A [cTP zc] s.heap.size) [cTP zc] := (kAll_D hDk hks (by simp)).self
  have hA : ∀ q : Nat, s.heap.size ≤ q → va_A [cTP zc] s.heap.size q := fun q h => Or.inr h
  have hS : va_S (va_A [cTP zc] s.heap.size) s.heap s.heap [] := va_S.rf
  refine lv_aload_n hx hb dX10_fault_0 rfl (lv_at hl 0 rfl) ?_
  refine va_get (D := (dC, dI)) (ci := 10) (v := .int (cs_i zc 2)) (C := RX10) (T := TX10) (N := 13) hx hb hts hiX10 hown hK hP 0 rfl rfl 12 (by decide) (hts (.fieldLink RX10 56 "TributePitches" "latestFault" "I") (List.mem_of_getElem? (i := 1) rfl)) (fun _ h9 => h9) rfl dX10_fault_1 ?_
  subst hQ
  exact W.iret (v := cs_i zc 2) hx hb hr (fun t ht hW => ⟨⟨cs_i zc 2, zc, rfl, ⟨⟨hI, rfl⟩, ⟨rfl, rfl⟩⟩, (by rw [ht]; exact hPk), va_K.moved hW.alike hKk, kDA_self hDk⟩, (kw_same hPk ht).2⟩) (fun q h => absurd h List.not_mem_nil) dX10_fault_4
def pC_told (zc : CS) (a0 : Int32) (r : Int32) (u : CS) : Prop :=
  ((cs_n zc 4 = 0) ∧ a0 = 0 ∧ r = (nI (cs_n zc 0)) ∧ u = zc) ∨
  ((cs_n zc 4 = 0) ∧ a0 = 1 ∧ r = (nI (cs_n zc 1)) ∧ u = zc) ∨
  ((cs_n zc 4 = 0) ∧ a0 = 2 ∧ r = (nI (cs_n zc 2)) ∧ u = zc) ∨
  ((cs_n zc 4 = 0) ∧ a0 = 3 ∧ r = (nI (cs_n zc 3)) ∧ u = zc) ∨
  ((cs_n zc 4 = 0) ∧ a0 = 4 ∧ r = (cs_i zc 0) ∧ u = zc) ∨
  ((cs_n zc 4 = 0) ∧ a0 = 5 ∧ r = ((-9)) ∧ u = zc) ∨
  ((cs_n zc 4 = 0) ∧ a0 = 6 ∧ r = ((-9)) ∧ u = zc) ∨
  ((cs_n zc 4 = 0) ∧ a0 = 7 ∧ r = ((-9)) ∧ u = zc) ∨
  ((cs_n zc 4 = 0) ∧ (¬ a0 = 0) ∧ (¬ a0 = 1) ∧ (¬ a0 = 2) ∧ (¬ a0 = 3) ∧ (¬ a0 = 4) ∧ (¬ a0 = 5) ∧ (¬ a0 = 6) ∧ (¬ a0 = 7) ∧ r = ((-2)) ∧ u = zc) ∨
  ((¬ cs_n zc 4 = 0) ∧ a0 = 0 ∧ r = (nI (cs_n zc 0)) ∧ u = zc) ∨
  ((¬ cs_n zc 4 = 0) ∧ a0 = 1 ∧ r = (nI (cs_n zc 1)) ∧ u = zc) ∨
  ((¬ cs_n zc 4 = 0) ∧ a0 = 2 ∧ r = (nI (cs_n zc 2)) ∧ u = zc) ∨
  ((¬ cs_n zc 4 = 0) ∧ a0 = 3 ∧ r = (nI (cs_n zc 3)) ∧ u = zc) ∨
  ((¬ cs_n zc 4 = 0) ∧ a0 = 4 ∧ r = (cs_i zc 0) ∧ u = zc) ∨
  ((¬ cs_n zc 4 = 0) ∧ a0 = 5 ∧ r = (cs_i zc 4) ∧ u = zc) ∨
  ((¬ cs_n zc 4 = 0) ∧ a0 = 6 ∧ r = (nI (cs_n zc 4 - 1)) ∧ u = zc) ∨
  ((¬ cs_n zc 4 = 0) ∧ a0 = 7 ∧ r = (cs_i zc 3) ∧ u = zc) ∨
  ((¬ cs_n zc 4 = 0) ∧ (¬ a0 = 0) ∧ (¬ a0 = 1) ∧ (¬ a0 = 2) ∧ (¬ a0 = 3) ∧ (¬ a0 = 4) ∧ (¬ a0 = 5) ∧ (¬ a0 = 6) ∧ (¬ a0 = 7) ∧ r = ((-2)) ∧ u = zc)
set_option maxHeartbeats 4000000 in
set_option maxRecDepth 100000 in
theorem K_told (l : Launch) (dC : Nat → ClassId) (dI : Nat → Nat → Nat) (cA : Nat → ClassId) (sz : Nat) (zc : CS) (a0 : Int32) (hI : invC zc) : Met l yX10_told wsX10_told ({ frames := 1, cells := 0, slots := 0, locals := 30 }) (kw (dC, dI) (ctys cA) (cF cA zc) sz [.ref (cs_X zc 0 0), .int a0]) (kQi (dC, dI) (ctys cA) (cF cA zc) sz (cF cA) (fun r u => (invC u ∧ cs_X u 0 0 = cs_X zc 0 0) ∧ pC_told zc a0 r u)) 0 0 (kA (cF cA zc) sz) := by
  refine kw_met (cc := cX10_told) (maxL := 2) (ret := (some .int)) (by decide) rfl (Nat.le_of_ble_eq_true rfl) ?_
  intro p e s m below meth c0 hx hb hr hml hown hlocks hnm hts hPk hKk hDk hN hsz ls hl
  subst hsz
  have hK : va_K (dC, dI) vwCl [(cA 0, .int), (cA 1, .object RX6), (cA 2, .object RX2), (cA 3, .object RX8), (cA 4, .object RX5), (cA 5, .object RX7)] s := hKk
  obtain ⟨⟨hn0, hn1, hn2, hn3, hn4, hn5⟩, hpi, hgk, htk, hpk, hsh⟩ := id hI
  have hl : lv_has ls 2 [(0, .ref (cs_X zc 0 0)), (1, .int a0)] := hl
  have hiX0 : ∀ w ∈ wsX00, w ∈ wsX10_told := fun _ h => List.mem_cons_of_mem _ (List.mem_append_left _ (List.mem_append_right _ (h)))
  have hiX10 : ∀ w ∈ wsX100, w ∈ wsX10_told := fun _ h => List.mem_cons_of_mem _ (List.mem_append_left _ (List.mem_append_left _ (List.mem_append_left _ (List.mem_append_right _ (h)))))
  have hiX3 : ∀ w ∈ wsX30, w ∈ wsX10_told := fun _ h => List.mem_cons_of_mem _ (List.mem_append_left _ (List.mem_append_left _ (List.mem_append_right _ (h))))
  have hiX6 : ∀ w ∈ wsX60, w ∈ wsX10_told := fun _ h => List.mem_cons_of_mem _ (List.mem_append_right _ (h))
  generalize hQ : MQ _ _ _ _ _ _ _ = Q
  by_cases hcur : cs_n zc 4 = 0
  · skip
    have hks : kAll (cF cA zc) [(0, 0), (0, 1)] [cTPN zc, cLo zc] := ⟨(kF_tpN (z := zc) hcur), (kF_lo (cA := cA) (z := zc)), trivial⟩
    have hP : va_P (dC, dI) vwCl [cTPN zc, cLo zc] s.heap := kAll_P hPk hks
    have hD : va_D (va_A [cTPN zc, cLo zc] s.heap.size) [cTPN zc, cLo zc] := (kAll_D hDk hks (by simp)).self
    have hA : ∀ q : Nat, s.heap.size ≤ q → va_A [cTPN zc, cLo zc] s.heap.size q := fun q h => Or.inr h
    have hS : va_S (va_A [cTPN zc, cLo zc] s.heap.size) s.heap s.heap [] := va_S.rf
    refine lv_iload_n hx hb dX10_told_0 rfl (lv_at hl 1 rfl) ?_
    by_cases hw1 : a0 = 0
    · subst hw1
      refine lv_tableIn (off := 47) (tgt := 48) hx hb dX10_told_1 (by decide) (by decide) rfl (by decide) ?_
      refine lv_aload_n hx hb dX10_told_48 rfl (lv_at hl 0 rfl) ?_
      refine va_get (D := (dC, dI)) (ci := 10) (v := .int (nI (cs_n zc 0))) (C := RX10) (T := TX10) (N := 13) hx hb hts hiX10 hown hK hP 0 rfl rfl 7 (by decide) (hts (.fieldLink RX10 124 "TributePitches" "pitchCount" "I") (List.mem_of_getElem? (i := 1) rfl)) (fun _ h9 => h9) rfl dX10_told_49 ?_
      subst hQ
      exact W.iret (v := nI (cs_n zc 0)) hx hb hr (fun t ht hW => ⟨⟨nI (cs_n zc 0), zc, rfl, ⟨⟨hI, rfl⟩, (Or.inl ⟨hcur, rfl, rfl, rfl⟩)⟩, (by rw [ht]; exact hPk), va_K.moved hW.alike hKk, kDA_self hDk⟩, (kw_same hPk ht).2⟩) (fun q h => absurd h List.not_mem_nil) dX10_told_52
    by_cases hw2 : a0 = 1
    · subst hw2
      refine lv_tableIn (off := 52) (tgt := 53) hx hb dX10_told_1 (by decide) (by decide) rfl (by decide) ?_
      refine lv_aload_n hx hb dX10_told_53 rfl (lv_at hl 0 rfl) ?_
      refine va_get (D := (dC, dI)) (ci := 10) (v := .int (nI (cs_n zc 1))) (C := RX10) (T := TX10) (N := 13) hx hb hts hiX10 hown hK hP 0 rfl rfl 8 (by decide) (hts (.fieldLink RX10 143 "TributePitches" "gangCount" "I") (List.mem_of_getElem? (i := 2) rfl)) (fun _ h9 => h9) rfl dX10_told_54 ?_
      subst hQ
      exact W.iret (v := nI (cs_n zc 1)) hx hb hr (fun t ht hW => ⟨⟨nI (cs_n zc 1), zc, rfl, ⟨⟨hI, rfl⟩, (Or.inr (Or.inl ⟨hcur, rfl, rfl, rfl⟩))⟩, (by rw [ht]; exact hPk), va_K.moved hW.alike hKk, kDA_self hDk⟩, (kw_same hPk ht).2⟩) (fun q h => absurd h List.not_mem_nil) dX10_told_57
    by_cases hw3 : a0 = 2
    · subst hw3
      refine lv_tableIn (off := 57) (tgt := 58) hx hb dX10_told_1 (by decide) (by decide) rfl (by decide) ?_
      refine lv_aload_n hx hb dX10_told_58 rfl (lv_at hl 0 rfl) ?_
      refine va_get (D := (dC, dI)) (ci := 10) (v := .int (nI (cs_n zc 2))) (C := RX10) (T := TX10) (N := 13) hx hb hts hiX10 hown hK hP 0 rfl rfl 9 (by decide) (hts (.fieldLink RX10 197 "TributePitches" "takeCount" "I") (List.mem_of_getElem? (i := 3) rfl)) (fun _ h9 => h9) rfl dX10_told_59 ?_
      subst hQ
      exact W.iret (v := nI (cs_n zc 2)) hx hb hr (fun t ht hW => ⟨⟨nI (cs_n zc 2), zc, rfl, ⟨⟨hI, rfl⟩, (Or.inr (Or.inr (Or.inl ⟨hcur, rfl, rfl, rfl⟩)))⟩, (by rw [ht]; exact hPk), va_K.moved hW.alike hKk, kDA_self hDk⟩, (kw_same hPk ht).2⟩) (fun q h => absurd h List.not_mem_nil) dX10_told_62
    by_cases hw4 : a0 = 3
    · subst hw4
      refine lv_tableIn (off := 62) (tgt := 63) hx hb dX10_told_1 (by decide) (by decide) rfl (by decide) ?_
      refine lv_aload_n hx hb dX10_told_63 rfl (lv_at hl 0 rfl) ?_
      refine va_get (D := (dC, dI)) (ci := 10) (v := .int (nI (cs_n zc 3))) (C := RX10) (T := TX10) (N := 13) hx hb hts hiX10 hown hK hP 0 rfl rfl 10 (by decide) (hts (.fieldLink RX10 242 "TributePitches" "parcelCount" "I") (List.mem_of_getElem? (i := 4) rfl)) (fun _ h9 => h9) rfl dX10_told_64 ?_
      subst hQ
      exact W.iret (v := nI (cs_n zc 3)) hx hb hr (fun t ht hW => ⟨⟨nI (cs_n zc 3), zc, rfl, ⟨⟨hI, rfl⟩, (Or.inr (Or.inr (Or.inr (Or.inl ⟨hcur, rfl, rfl, rfl⟩))))⟩, (by rw [ht]; exact hPk), va_K.moved hW.alike hKk, kDA_self hDk⟩, (kw_same hPk ht).2⟩) (fun q h => absurd h List.not_mem_nil) dX10_told_67
    by_cases hw5 : a0 = 4
    · subst hw5
      refine lv_tableIn (off := 67) (tgt := 68) hx hb dX10_told_1 (by decide) (by decide) rfl (by decide) ?_
      refine lv_aload_n hx hb dX10_told_68 rfl (lv_at hl 0 rfl) ?_
      refine va_get (D := (dC, dI)) (ci := 10) (v := .ref (cs_X zc 0 1)) (C := RX10) (T := TX10) (N := 13) hx hb hts hiX10 hown hK hP 0 rfl rfl 0 (by decide) (hts (.fieldLink RX10 12 "TributePitches" "lode" "LTributePitches$Lode;") (List.mem_of_getElem? (i := 5) rfl)) (fun _ h9 => h9) rfl dX10_told_69 ?_
      refine va_get (D := (dC, dI)) (ci := 3) (v := .int (cs_i zc 0)) (C := RX3) (T := TX3) (N := 5) hx hb hts hiX3 hown hK hP 1 rfl rfl 4 (by decide) (hts (.fieldLink RX10 79 "TributePitches$Lode" "law" "I") (List.mem_of_getElem? (i := 6) rfl)) (fun _ h9 => h9) rfl dX10_told_72 ?_
      subst hQ
      exact W.iret (v := cs_i zc 0) hx hb hr (fun t ht hW => ⟨⟨cs_i zc 0, zc, rfl, ⟨⟨hI, rfl⟩, (Or.inr (Or.inr (Or.inr (Or.inr (Or.inl ⟨hcur, rfl, rfl, rfl⟩)))))⟩, (by rw [ht]; exact hPk), va_K.moved hW.alike hKk, kDA_self hDk⟩, (kw_same hPk ht).2⟩) (fun q h => absurd h List.not_mem_nil) dX10_told_75
    by_cases hw6 : a0 = 5
    · subst hw6
      refine lv_tableIn (off := 75) (tgt := 76) hx hb dX10_told_1 (by decide) (by decide) rfl (by decide) ?_
      refine lv_aload_n hx hb dX10_told_76 rfl (lv_at hl 0 rfl) ?_
      refine va_get (D := (dC, dI)) (ci := 10) (v := .null) (C := RX10) (T := TX10) (N := 13) hx hb hts hiX10 hown hK hP 0 rfl rfl 11 (by decide) (hts (.fieldLink RX10 163 "TributePitches" "current" "LTributePitches$Auction;") (List.mem_of_getElem? (i := 7) rfl)) (fun _ h9 => h9) rfl dX10_told_77 ?_
      refine lv_ifnonnullN hx hb dX10_told_80 ?_
      refine lv_bipush (v := (-9)) hx hb dX10_told_83 (by decide) ?_
      refine lv_goto (tgt := 95) hx hb dX10_told_85 (by decide) ?_
      subst hQ
      exact W.iret (v := (-9)) hx hb hr (fun t ht hW => ⟨⟨(-9), zc, rfl, ⟨⟨hI, rfl⟩, (Or.inr (Or.inr (Or.inr (Or.inr (Or.inr (Or.inl ⟨hcur, rfl, rfl, rfl⟩))))))⟩, (by rw [ht]; exact hPk), va_K.moved hW.alike hKk, kDA_self hDk⟩, (kw_same hPk ht).2⟩) (fun q h => absurd h List.not_mem_nil) dX10_told_95
    by_cases hw7 : a0 = 6
    · subst hw7
      refine lv_tableIn (off := 95) (tgt := 96) hx hb dX10_told_1 (by decide) (by decide) rfl (by decide) ?_
      refine lv_aload_n hx hb dX10_told_96 rfl (lv_at hl 0 rfl) ?_
      refine va_get (D := (dC, dI)) (ci := 10) (v := .null) (C := RX10) (T := TX10) (N := 13) hx hb hts hiX10 hown hK hP 0 rfl rfl 11 (by decide) (hts (.fieldLink RX10 163 "TributePitches" "current" "LTributePitches$Auction;") (List.mem_of_getElem? (i := 7) rfl)) (fun _ h9 => h9) rfl dX10_told_97 ?_
      refine lv_ifnonnullN hx hb dX10_told_100 ?_
      refine lv_bipush (v := (-9)) hx hb dX10_told_103 (by decide) ?_
      refine lv_goto (tgt := 118) hx hb dX10_told_105 (by decide) ?_
      subst hQ
      exact W.iret (v := (-9)) hx hb hr (fun t ht hW => ⟨⟨(-9), zc, rfl, ⟨⟨hI, rfl⟩, (Or.inr (Or.inr (Or.inr (Or.inr (Or.inr (Or.inr (Or.inl ⟨hcur, rfl, rfl, rfl⟩)))))))⟩, (by rw [ht]; exact hPk), va_K.moved hW.alike hKk, kDA_self hDk⟩, (kw_same hPk ht).2⟩) (fun q h => absurd h List.not_mem_nil) dX10_told_118
    by_cases hw8 : a0 = 7
    · subst hw8
      refine lv_tableIn (off := 118) (tgt := 119) hx hb dX10_told_1 (by decide) (by decide) rfl (by decide) ?_
      refine lv_aload_n hx hb dX10_told_119 rfl (lv_at hl 0 rfl) ?_
      refine va_get (D := (dC, dI)) (ci := 10) (v := .null) (C := RX10) (T := TX10) (N := 13) hx hb hts hiX10 hown hK hP 0 rfl rfl 11 (by decide) (hts (.fieldLink RX10 163 "TributePitches" "current" "LTributePitches$Auction;") (List.mem_of_getElem? (i := 7) rfl)) (fun _ h9 => h9) rfl dX10_told_120 ?_
      refine lv_ifnonnullN hx hb dX10_told_123 ?_
      refine lv_bipush (v := (-9)) hx hb dX10_told_126 (by decide) ?_
      refine lv_goto (tgt := 138) hx hb dX10_told_128 (by decide) ?_
      subst hQ
      exact W.iret (v := (-9)) hx hb hr (fun t ht hW => ⟨⟨(-9), zc, rfl, ⟨⟨hI, rfl⟩, (Or.inr (Or.inr (Or.inr (Or.inr (Or.inr (Or.inr (Or.inr (Or.inl ⟨hcur, rfl, rfl, rfl⟩))))))))⟩, (by rw [ht]; exact hPk), va_K.moved hW.alike hKk, kDA_self hDk⟩, (kw_same hPk ht).2⟩) (fun q h => absurd h List.not_mem_nil) dX10_told_138
    refine lv_tableOut (tgt := 139) hx hb dX10_told_1 (tb_out8 hw1 hw2 hw3 hw4 hw5 hw6 hw7 hw8) (by decide) ?_
    refine lv_bipush (v := (-2)) hx hb dX10_told_139 (by decide) ?_
    subst hQ
    exact W.iret (v := (-2)) hx hb hr (fun t ht hW => ⟨⟨(-2), zc, rfl, ⟨⟨hI, rfl⟩, (Or.inr (Or.inr (Or.inr (Or.inr (Or.inr (Or.inr (Or.inr (Or.inr (Or.inl ⟨hcur, hw1, hw2, hw3, hw4, hw5, hw6, hw7, hw8, rfl, rfl⟩)))))))))⟩, (by rw [ht]; exact hPk), va_K.moved hW.alike hKk, kDA_self hDk⟩, (kw_same hPk ht).2⟩) (fun q h => absurd h List.not_mem_nil) dX10_told_141
  · skip
    have hks : kAll (cF cA zc) [(0, 0), (0, 1), (5, 0), (1, cs_n zc 4 - 1)] [cTPA zc, cLo zc, cAu zc, cPi zc (cs_n zc 4 - 1)] := ⟨(kF_tpA (z := zc) hcur), (kF_lo (cA := cA) (z := zc)), (kF_au (z := zc) hcur), (kF_pi (z := zc) (j := cs_n zc 4 - 1) (by omega)), trivial⟩
    have hP : va_P (dC, dI) vwCl [cTPA zc, cLo zc, cAu zc, cPi zc (cs_n zc 4 - 1)] s.heap := kAll_P hPk hks
    have hD : va_D (va_A [cTPA zc, cLo zc, cAu zc, cPi zc (cs_n zc 4 - 1)] s.heap.size) [cTPA zc, cLo zc, cAu zc, cPi zc (cs_n zc 4 - 1)] := (kAll_D hDk hks (by simp)).self
    have hA : ∀ q : Nat, s.heap.size ≤ q → va_A [cTPA zc, cLo zc, cAu zc, cPi zc (cs_n zc 4 - 1)] s.heap.size q := fun q h => Or.inr h
    have hS : va_S (va_A [cTPA zc, cLo zc, cAu zc, cPi zc (cs_n zc 4 - 1)] s.heap.size) s.heap s.heap [] := va_S.rf
    refine lv_iload_n hx hb dX10_told_0 rfl (lv_at hl 1 rfl) ?_
    by_cases hw9 : a0 = 0
    · subst hw9
      refine lv_tableIn (off := 47) (tgt := 48) hx hb dX10_told_1 (by decide) (by decide) rfl (by decide) ?_
      refine lv_aload_n hx hb dX10_told_48 rfl (lv_at hl 0 rfl) ?_
      refine va_get (D := (dC, dI)) (ci := 10) (v := .int (nI (cs_n zc 0))) (C := RX10) (T := TX10) (N := 13) hx hb hts hiX10 hown hK hP 0 rfl rfl 7 (by decide) (hts (.fieldLink RX10 124 "TributePitches" "pitchCount" "I") (List.mem_of_getElem? (i := 1) rfl)) (fun _ h9 => h9) rfl dX10_told_49 ?_
      subst hQ
      exact W.iret (v := nI (cs_n zc 0)) hx hb hr (fun t ht hW => ⟨⟨nI (cs_n zc 0), zc, rfl, ⟨⟨hI, rfl⟩, (Or.inr (Or.inr (Or.inr (Or.inr (Or.inr (Or.inr (Or.inr (Or.inr (Or.inr (Or.inl ⟨hcur, rfl, rfl, rfl⟩))))))))))⟩, (by rw [ht]; exact hPk), va_K.moved hW.alike hKk, kDA_self hDk⟩, (kw_same hPk ht).2⟩) (fun q h => absurd h List.not_mem_nil) dX10_told_52
    by_cases hw10 : a0 = 1
    · subst hw10
      refine lv_tableIn (off := 52) (tgt := 53) hx hb dX10_told_1 (by decide) (by decide) rfl (by decide) ?_
      refine lv_aload_n hx hb dX10_told_53 rfl (lv_at hl 0 rfl) ?_
      refine va_get (D := (dC, dI)) (ci := 10) (v := .int (nI (cs_n zc 1))) (C := RX10) (T := TX10) (N := 13) hx hb hts hiX10 hown hK hP 0 rfl rfl 8 (by decide) (hts (.fieldLink RX10 143 "TributePitches" "gangCount" "I") (List.mem_of_getElem? (i := 2) rfl)) (fun _ h9 => h9) rfl dX10_told_54 ?_
      subst hQ
      exact W.iret (v := nI (cs_n zc 1)) hx hb hr (fun t ht hW => ⟨⟨nI (cs_n zc 1), zc, rfl, ⟨⟨hI, rfl⟩, (Or.inr (Or.inr (Or.inr (Or.inr (Or.inr (Or.inr (Or.inr (Or.inr (Or.inr (Or.inr (Or.inl ⟨hcur, rfl, rfl, rfl⟩)))))))))))⟩, (by rw [ht]; exact hPk), va_K.moved hW.alike hKk, kDA_self hDk⟩, (kw_same hPk ht).2⟩) (fun q h => absurd h List.not_mem_nil) dX10_told_57
    by_cases hw11 : a0 = 2
    · subst hw11
      refine lv_tableIn (off := 57) (tgt := 58) hx hb dX10_told_1 (by decide) (by decide) rfl (by decide) ?_
      refine lv_aload_n hx hb dX10_told_58 rfl (lv_at hl 0 rfl) ?_
      refine va_get (D := (dC, dI)) (ci := 10) (v := .int (nI (cs_n zc 2))) (C := RX10) (T := TX10) (N := 13) hx hb hts hiX10 hown hK hP 0 rfl rfl 9 (by decide) (hts (.fieldLink RX10 197 "TributePitches" "takeCount" "I") (List.mem_of_getElem? (i := 3) rfl)) (fun _ h9 => h9) rfl dX10_told_59 ?_
      subst hQ
      exact W.iret (v := nI (cs_n zc 2)) hx hb hr (fun t ht hW => ⟨⟨nI (cs_n zc 2), zc, rfl, ⟨⟨hI, rfl⟩, (Or.inr (Or.inr (Or.inr (Or.inr (Or.inr (Or.inr (Or.inr (Or.inr (Or.inr (Or.inr (Or.inr (Or.inl ⟨hcur, rfl, rfl, rfl⟩))))))))))))⟩, (by rw [ht]; exact hPk), va_K.moved hW.alike hKk, kDA_self hDk⟩, (kw_same hPk ht).2⟩) (fun q h => absurd h List.not_mem_nil) dX10_told_62
    by_cases hw12 : a0 = 3
    · subst hw12
      refine lv_tableIn (off := 62) (tgt := 63) hx hb dX10_told_1 (by decide) (by decide) rfl (by decide) ?_
      refine lv_aload_n hx hb dX10_told_63 rfl (lv_at hl 0 rfl) ?_
      refine va_get (D := (dC, dI)) (ci := 10) (v := .int (nI (cs_n zc 3))) (C := RX10) (T := TX10) (N := 13) hx hb hts hiX10 hown hK hP 0 rfl rfl 10 (by decide) (hts (.fieldLink RX10 242 "TributePitches" "parcelCount" "I") (List.mem_of_getElem? (i := 4) rfl)) (fun _ h9 => h9) rfl dX10_told_64 ?_
      subst hQ
      exact W.iret (v := nI (cs_n zc 3)) hx hb hr (fun t ht hW => ⟨⟨nI (cs_n zc 3), zc, rfl, ⟨⟨hI, rfl⟩, (Or.inr (Or.inr (Or.inr (Or.inr (Or.inr (Or.inr (Or.inr (Or.inr (Or.inr (Or.inr (Or.inr (Or.inr (Or.inl ⟨hcur, rfl, rfl, rfl⟩)))))))))))))⟩, (by rw [ht]; exact hPk), va_K.moved hW.alike hKk, kDA_self hDk⟩, (kw_same hPk ht).2⟩) (fun q h => absurd h List.not_mem_nil) dX10_told_67
    by_cases hw13 : a0 = 4
    · subst hw13
      refine lv_tableIn (off := 67) (tgt := 68) hx hb dX10_told_1 (by decide) (by decide) rfl (by decide) ?_
      refine lv_aload_n hx hb dX10_told_68 rfl (lv_at hl 0 rfl) ?_
      refine va_get (D := (dC, dI)) (ci := 10) (v := .ref (cs_X zc 0 1)) (C := RX10) (T := TX10) (N := 13) hx hb hts hiX10 hown hK hP 0 rfl rfl 0 (by decide) (hts (.fieldLink RX10 12 "TributePitches" "lode" "LTributePitches$Lode;") (List.mem_of_getElem? (i := 5) rfl)) (fun _ h9 => h9) rfl dX10_told_69 ?_
      refine va_get (D := (dC, dI)) (ci := 3) (v := .int (cs_i zc 0)) (C := RX3) (T := TX3) (N := 5) hx hb hts hiX3 hown hK hP 1 rfl rfl 4 (by decide) (hts (.fieldLink RX10 79 "TributePitches$Lode" "law" "I") (List.mem_of_getElem? (i := 6) rfl)) (fun _ h9 => h9) rfl dX10_told_72 ?_
      subst hQ
      exact W.iret (v := cs_i zc 0) hx hb hr (fun t ht hW => ⟨⟨cs_i zc 0, zc, rfl, ⟨⟨hI, rfl⟩, (Or.inr (Or.inr (Or.inr (Or.inr (Or.inr (Or.inr (Or.inr (Or.inr (Or.inr (Or.inr (Or.inr (Or.inr (Or.inr (Or.inl ⟨hcur, rfl, rfl, rfl⟩))))))))))))))⟩, (by rw [ht]; exact hPk), va_K.moved hW.alike hKk, kDA_self hDk⟩, (kw_same hPk ht).2⟩) (fun q h => absurd h List.not_mem_nil) dX10_told_75
    by_cases hw14 : a0 = 5
    · subst hw14
      refine lv_tableIn (off := 75) (tgt := 76) hx hb dX10_told_1 (by decide) (by decide) rfl (by decide) ?_
      refine lv_aload_n hx hb dX10_told_76 rfl (lv_at hl 0 rfl) ?_
      refine va_get (D := (dC, dI)) (ci := 10) (v := .ref (cs_X zc 5 0)) (C := RX10) (T := TX10) (N := 13) hx hb hts hiX10 hown hK hP 0 rfl rfl 11 (by decide) (hts (.fieldLink RX10 163 "TributePitches" "current" "LTributePitches$Auction;") (List.mem_of_getElem? (i := 7) rfl)) (fun _ h9 => h9) rfl dX10_told_77 ?_
      refine lv_ifnonnull (tgt := 88) hx hb dX10_told_80 (by decide) ?_
      refine lv_aload_n hx hb dX10_told_88 rfl (lv_at hl 0 rfl) ?_
      refine va_get (D := (dC, dI)) (ci := 10) (v := .ref (cs_X zc 5 0)) (C := RX10) (T := TX10) (N := 13) hx hb hts hiX10 hown hK hP 0 rfl rfl 11 (by decide) (hts (.fieldLink RX10 163 "TributePitches" "current" "LTributePitches$Auction;") (List.mem_of_getElem? (i := 7) rfl)) (fun _ h9 => h9) rfl dX10_told_89 ?_
      refine va_get (D := (dC, dI)) (ci := 0) (v := .int (cs_i zc 4)) (C := RX0) (T := TX0) (N := 4) hx hb hts hiX0 hown hK hP 2 rfl rfl 2 (by decide) (hts (.fieldLink RX10 187 "TributePitches$Auction" "bids" "I") (List.mem_of_getElem? (i := 8) rfl)) (fun _ h9 => h9) rfl dX10_told_92 ?_
      subst hQ
      exact W.iret (v := cs_i zc 4) hx hb hr (fun t ht hW => ⟨⟨cs_i zc 4, zc, rfl, ⟨⟨hI, rfl⟩, (Or.inr (Or.inr (Or.inr (Or.inr (Or.inr (Or.inr (Or.inr (Or.inr (Or.inr (Or.inr (Or.inr (Or.inr (Or.inr (Or.inr (Or.inl ⟨hcur, rfl, rfl, rfl⟩)))))))))))))))⟩, (by rw [ht]; exact hPk), va_K.moved hW.alike hKk, kDA_self hDk⟩, (kw_same hPk ht).2⟩) (fun q h => absurd h List.not_mem_nil) dX10_told_95
    by_cases hw15 : a0 = 6
    · subst hw15
      refine lv_tableIn (off := 95) (tgt := 96) hx hb dX10_told_1 (by decide) (by decide) rfl (by decide) ?_
      refine lv_aload_n hx hb dX10_told_96 rfl (lv_at hl 0 rfl) ?_
      refine va_get (D := (dC, dI)) (ci := 10) (v := .ref (cs_X zc 5 0)) (C := RX10) (T := TX10) (N := 13) hx hb hts hiX10 hown hK hP 0 rfl rfl 11 (by decide) (hts (.fieldLink RX10 163 "TributePitches" "current" "LTributePitches$Auction;") (List.mem_of_getElem? (i := 7) rfl)) (fun _ h9 => h9) rfl dX10_told_97 ?_
      refine lv_ifnonnull (tgt := 108) hx hb dX10_told_100 (by decide) ?_
      refine lv_aload_n hx hb dX10_told_108 rfl (lv_at hl 0 rfl) ?_
      refine va_get (D := (dC, dI)) (ci := 10) (v := .ref (cs_X zc 5 0)) (C := RX10) (T := TX10) (N := 13) hx hb hts hiX10 hown hK hP 0 rfl rfl 11 (by decide) (hts (.fieldLink RX10 163 "TributePitches" "current" "LTributePitches$Auction;") (List.mem_of_getElem? (i := 7) rfl)) (fun _ h9 => h9) rfl dX10_told_109 ?_
      refine va_get (D := (dC, dI)) (ci := 0) (v := .ref (cs_X zc 1 (cs_n zc 4 - 1))) (C := RX0) (T := TX0) (N := 4) hx hb hts hiX0 hown hK hP 2 rfl rfl 0 (by decide) (hts (.fieldLink RX10 193 "TributePitches$Auction" "pitch" "LTributePitches$Pitch;") (List.mem_of_getElem? (i := 9) rfl)) (fun _ h9 => h9) rfl dX10_told_112 ?_
      refine va_get (D := (dC, dI)) (ci := 6) (v := .int (nI (cs_n zc 4 - 1))) (C := RX6) (T := TX6) (N := 8) hx hb hts hiX6 hown hK hP 3 rfl rfl 0 (by decide) (hts (.fieldLink RX10 269 "TributePitches$Pitch" "number" "I") (List.mem_of_getElem? (i := 10) rfl)) (fun _ h9 => h9) rfl dX10_told_115 ?_
      subst hQ
      exact W.iret (v := nI (cs_n zc 4 - 1)) hx hb hr (fun t ht hW => ⟨⟨nI (cs_n zc 4 - 1), zc, rfl, ⟨⟨hI, rfl⟩, (Or.inr (Or.inr (Or.inr (Or.inr (Or.inr (Or.inr (Or.inr (Or.inr (Or.inr (Or.inr (Or.inr (Or.inr (Or.inr (Or.inr (Or.inr (Or.inl ⟨hcur, rfl, rfl, rfl⟩))))))))))))))))⟩, (by rw [ht]; exact hPk), va_K.moved hW.alike hKk, kDA_self hDk⟩, (kw_same hPk ht).2⟩) (fun q h => absurd h List.not_mem_nil) dX10_told_118
    by_cases hw16 : a0 = 7
    · subst hw16
      refine lv_tableIn (off := 118) (tgt := 119) hx hb dX10_told_1 (by decide) (by decide) rfl (by decide) ?_
      refine lv_aload_n hx hb dX10_told_119 rfl (lv_at hl 0 rfl) ?_
      refine va_get (D := (dC, dI)) (ci := 10) (v := .ref (cs_X zc 5 0)) (C := RX10) (T := TX10) (N := 13) hx hb hts hiX10 hown hK hP 0 rfl rfl 11 (by decide) (hts (.fieldLink RX10 163 "TributePitches" "current" "LTributePitches$Auction;") (List.mem_of_getElem? (i := 7) rfl)) (fun _ h9 => h9) rfl dX10_told_120 ?_
      refine lv_ifnonnull (tgt := 131) hx hb dX10_told_123 (by decide) ?_
      refine lv_aload_n hx hb dX10_told_131 rfl (lv_at hl 0 rfl) ?_
      refine va_get (D := (dC, dI)) (ci := 10) (v := .ref (cs_X zc 5 0)) (C := RX10) (T := TX10) (N := 13) hx hb hts hiX10 hown hK hP 0 rfl rfl 11 (by decide) (hts (.fieldLink RX10 163 "TributePitches" "current" "LTributePitches$Auction;") (List.mem_of_getElem? (i := 7) rfl)) (fun _ h9 => h9) rfl dX10_told_132 ?_
      refine va_get (D := (dC, dI)) (ci := 0) (v := .int (cs_i zc 3)) (C := RX0) (T := TX0) (N := 4) hx hb hts hiX0 hown hK hP 2 rfl rfl 1 (by decide) (hts (.fieldLink RX10 190 "TributePitches$Auction" "share" "I") (List.mem_of_getElem? (i := 11) rfl)) (fun _ h9 => h9) rfl dX10_told_135 ?_
      subst hQ
      exact W.iret (v := cs_i zc 3) hx hb hr (fun t ht hW => ⟨⟨cs_i zc 3, zc, rfl, ⟨⟨hI, rfl⟩, (Or.inr (Or.inr (Or.inr (Or.inr (Or.inr (Or.inr (Or.inr (Or.inr (Or.inr (Or.inr (Or.inr (Or.inr (Or.inr (Or.inr (Or.inr (Or.inr (Or.inl ⟨hcur, rfl, rfl, rfl⟩)))))))))))))))))⟩, (by rw [ht]; exact hPk), va_K.moved hW.alike hKk, kDA_self hDk⟩, (kw_same hPk ht).2⟩) (fun q h => absurd h List.not_mem_nil) dX10_told_138
    refine lv_tableOut (tgt := 139) hx hb dX10_told_1 (tb_out8 hw9 hw10 hw11 hw12 hw13 hw14 hw15 hw16) (by decide) ?_
    refine lv_bipush (v := (-2)) hx hb dX10_told_139 (by decide) ?_
    subst hQ
    exact W.iret (v := (-2)) hx hb hr (fun t ht hW => ⟨⟨(-2), zc, rfl, ⟨⟨hI, rfl⟩, (Or.inr (Or.inr (Or.inr (Or.inr (Or.inr (Or.inr (Or.inr (Or.inr (Or.inr (Or.inr (Or.inr (Or.inr (Or.inr (Or.inr (Or.inr (Or.inr (Or.inr ⟨hcur, hw9, hw10, hw11, hw12, hw13, hw14, hw15, hw16, rfl, rfl⟩)))))))))))))))))⟩, (by rw [ht]; exact hPk), va_K.moved hW.alike hKk, kDA_self hDk⟩, (kw_same hPk ht).2⟩) (fun q h => absurd h List.not_mem_nil) dX10_told_141
def pC_good (zc : CS) (x : Int32) (y : Int32) (wh : Int32) (r : Int32) (u : CS) : Prop :=
  (((0 ≤ x ∧ x ≤ 7) ∧ (0 ≤ y ∧ y ≤ 5)) ∧ (0 ≤ wh ∧ wh ≤ 1) ∧ (¬ wh = 0) ∧ r = ((cs_I zc 1) (8 * y + x).toNatClampNeg) ∧ u = zc) ∨
  (((0 ≤ x ∧ x ≤ 7) ∧ (0 ≤ y ∧ y ≤ 5)) ∧ (0 ≤ wh ∧ wh ≤ 1) ∧ (wh = 0) ∧ r = ((cs_I zc 0) (8 * y + x).toNatClampNeg) ∧ u = zc) ∨
  (((0 ≤ x ∧ x ≤ 7) ∧ (0 ≤ y ∧ y ≤ 5)) ∧ (¬ (0 ≤ wh ∧ wh ≤ 1)) ∧ r = ((-2)) ∧ u = zc) ∨
  ((¬ ((0 ≤ x ∧ x ≤ 7) ∧ (0 ≤ y ∧ y ≤ 5))) ∧ r = ((-1)) ∧ u = zc)
set_option maxHeartbeats 4000000 in
set_option maxRecDepth 100000 in
theorem K_good (l : Launch) (dC : Nat → ClassId) (dI : Nat → Nat → Nat) (cA : Nat → ClassId) (sz : Nat) (zc : CS) (x : Int32) (y : Int32) (wh : Int32) (hI : invC zc) : Met l yX10_good wsX10_good ({ frames := 2, cells := 0, slots := 0, locals := 60 }) (kw (dC, dI) (ctys cA) (cF cA zc) sz [.ref (cs_X zc 0 0), .int x, .int y, .int wh]) (kQi (dC, dI) (ctys cA) (cF cA zc) sz (cF cA) (fun r u => (invC u ∧ cs_X u 0 0 = cs_X zc 0 0) ∧ pC_good zc x y wh r u)) 0 0 (kA (cF cA zc) sz) := by
  refine kw_met (cc := cX10_good) (maxL := 5) (ret := (some .int)) (by decide) rfl (Nat.le_of_ble_eq_true rfl) ?_
  intro p e s m below meth c0 hx hb hr hml hown hlocks hnm hts hPk hKk hDk hN hsz ls hl
  subst hsz
  have hK : va_K (dC, dI) vwCl [(cA 0, .int), (cA 1, .object RX6), (cA 2, .object RX2), (cA 3, .object RX8), (cA 4, .object RX5), (cA 5, .object RX7)] s := hKk
  obtain ⟨⟨hn0, hn1, hn2, hn3, hn4, hn5⟩, hpi, hgk, htk, hpk, hsh⟩ := id hI
  have hl : lv_has ls 5 [(0, .ref (cs_X zc 0 0)), (1, .int x), (2, .int y), (3, .int wh)] := hl
  have hiX10 : ∀ w ∈ wsX100, w ∈ wsX10_good := fun _ h => List.mem_cons_of_mem _ (List.mem_append_left _ (List.mem_append_right _ (h)))
  have hiX3 : ∀ w ∈ wsX30, w ∈ wsX10_good := fun _ h => List.mem_cons_of_mem _ (List.mem_append_right _ (h))
  generalize hQ : MQ _ _ _ _ _ _ _ = Q
  have hks : kAll (cF cA zc) [(0, 0), (0, 1), (0, 2), (0, 3)] [cTP zc, cLo zc, cA2 cA zc, cA3 cA zc] := ⟨(kF_tp (cA := cA) (z := zc)), (kF_lo (cA := cA) (z := zc)), (kF_a2 (cA := cA) (z := zc)), (kF_a3 (cA := cA) (z := zc)), trivial⟩
  have hP : va_P (dC, dI) vwCl [cTP zc, cLo zc, cA2 cA zc, cA3 cA zc] s.heap := kAll_P hPk hks
  have hD : va_D (va_A [cTP zc, cLo zc, cA2 cA zc, cA3 cA zc] s.heap.size) [cTP zc, cLo zc, cA2 cA zc, cA3 cA zc] := (kAll_D hDk hks (by simp)).self
  have hA : ∀ q : Nat, s.heap.size ≤ q → va_A [cTP zc, cLo zc, cA2 cA zc, cA3 cA zc] s.heap.size q := fun q h => Or.inr h
  have hS : va_S (va_A [cTP zc, cLo zc, cA2 cA zc, cA3 cA zc] s.heap.size) s.heap s.heap [] := va_S.rf
  refine lv_iload_n hx hb dX10_good_0 rfl (lv_at hl 1 rfl) ?_
  refine lv_iload_n hx hb dX10_good_1 rfl (lv_at hl 2 rfl) ?_
  refine vp_callSi (va_Run.run (va_runS (As := [.int x, .int y]) (rest := []) ⟨hx, hb, hml, hown, hts⟩ (c_X3_hasSquare l x y ) (va_cwS 2 hts gX10_good_X3_hasSquare rfl rfl rfl (by decide +kernel) ⟨Nat.le_of_ble_eq_true rfl, Nat.le_of_ble_eq_true rfl⟩) (p0_preS hN) rfl rfl hl.1 rfl (lv_room (Nat.le_of_ble_eq_true rfl)) dX10_good_2 ⟨Nat.le_of_ble_eq_true rfl, Nat.le_of_ble_eq_true rfl⟩)) (fun r1 hr1 => ?_)
  have hr1 : r1 = if (0 ≤ x ∧ x ≤ 7) ∧ (0 ≤ y ∧ y ≤ 5) then 1 else 0 := hr1
  refine lv_if_ne (tgt := 10) hx hb dX10_good_5 (by decide) (fun c2 => ?_) (fun c2 => ?_)
  · skip
    have c2 := (fa_bool_prop hr1).2.mp c2
    refine lv_iload_n hx hb dX10_good_10 rfl (lv_at hl 3 rfl) ?_
    refine lv_iconst (v := 0) hx hb dX10_good_11 (by decide) ?_
    refine lv_iconst (v := 1) hx hb dX10_good_12 (by decide) ?_
    refine vp_callSi (va_Run.run (va_runS (As := [.int wh, .int 0, .int 1]) (rest := []) ⟨hx, hb, hml, hown, hts⟩ (c_X10_isWithin l wh 0 1 ) (va_cwS 3 hts gX10_good_X10_isWithin rfl rfl rfl (by decide +kernel) ⟨Nat.le_of_ble_eq_true rfl, Nat.le_of_ble_eq_true rfl⟩) (p0_preS hN) rfl rfl hl.1 rfl (lv_room (Nat.le_of_ble_eq_true rfl)) dX10_good_13 ⟨Nat.le_of_ble_eq_true rfl, Nat.le_of_ble_eq_true rfl⟩)) (fun r3 hr3 => ?_)
    have hr3 : r3 = if 0 ≤ wh ∧ wh ≤ 1 then 1 else 0 := hr3
    refine lv_if_ne (tgt := 22) hx hb dX10_good_16 (by decide) (fun c4 => ?_) (fun c4 => ?_)
    · skip
      have c4 := (fa_bool_prop hr3).2.mp c4
      refine lv_iload_n hx hb dX10_good_22 rfl (lv_at hl 1 rfl) ?_
      refine lv_iload_n hx hb dX10_good_23 rfl (lv_at hl 2 rfl) ?_
      refine vp_callSi (va_Run.run (va_runS (As := [.int x, .int y]) (rest := []) ⟨hx, hb, hml, hown, hts⟩ (c_X3_numberOf l x y ) (va_cwS 2 hts gX10_good_X3_numberOf rfl rfl rfl (by decide +kernel) ⟨Nat.le_of_ble_eq_true rfl, Nat.le_of_ble_eq_true rfl⟩) (p0_preS hN) rfl rfl hl.1 rfl (lv_room (Nat.le_of_ble_eq_true rfl)) dX10_good_24 ⟨Nat.le_of_ble_eq_true rfl, Nat.le_of_ble_eq_true rfl⟩)) (fun r5 hr5 => ?_)
      have hr5 : r5 = 8 * y + x := hr5
      have hr5 := hr5.symm
      subst hr5
      refine W.eq (g2 := F0 m 27 ls [.int (8 * y + x)]) rfl ?_
      refine lv_istore (lv' := [(4, .int (8 * y + x)), (0, .ref (cs_X zc 0 0)), (1, .int x), (2, .int y), (3, .int wh)]) hx hb dX10_good_27 hl (by decide) rfl (fun ls hl => ?_)
      refine lv_iload_n hx hb dX10_good_29 rfl (lv_at hl 4 rfl) ?_
      refine lv_if_ne (tgt := 46) hx hb dX10_good_30 (by decide) (fun c6 => ?_) (fun c6 => ?_)
      · skip
        refine lv_aload_n hx hb dX10_good_46 rfl (lv_at hl 1 rfl) ?_
        refine va_get (D := (dC, dI)) (ci := 10) (v := .ref (cs_X zc 0 1)) (C := RX10) (T := TX10) (N := 13) hx hb hts hiX10 hown hK hP 0 rfl rfl 0 (by decide) (hts (.fieldLink RX10 12 "TributePitches" "lode" "LTributePitches$Lode;") (List.mem_of_getElem? (i := 1) rfl)) (fun _ h9 => h9) rfl dX10_good_47 ?_
        refine va_get (D := (dC, dI)) (ci := 3) (v := .ref (cs_X zc 0 3)) (C := RX3) (T := TX3) (N := 5) hx hb hts hiX3 hown hK hP 1 rfl rfl 1 (by decide) (hts (.fieldLink RX10 90 "TributePitches$Lode" "highs" "[I") (List.mem_of_getElem? (i := 3) rfl)) (fun _ h9 => h9) rfl dX10_good_50 ?_
        refine lv_iload hx hb dX10_good_53 (lv_at hl 0 rfl) ?_
        refine va_iald hx hb hK hP 3 0 rfl rfl (sq_in c2) dX10_good_55 ?_
        subst hQ
        exact W.iret (v := (cs_I zc 1) (8 * y + x).toNatClampNeg) hx hb hr (fun t ht hW => ⟨⟨(cs_I zc 1) (8 * y + x).toNatClampNeg, zc, rfl, ⟨⟨hI, rfl⟩, (Or.inl ⟨c2, c4, c6, rfl, rfl⟩)⟩, (by rw [ht]; exact hPk), va_K.moved hW.alike hKk, kDA_self hDk⟩, (kw_same hPk ht).2⟩) (fun q h => absurd h List.not_mem_nil) dX10_good_56
      · skip
        refine lv_aload_n hx hb dX10_good_33 rfl (lv_at hl 1 rfl) ?_
        refine va_get (D := (dC, dI)) (ci := 10) (v := .ref (cs_X zc 0 1)) (C := RX10) (T := TX10) (N := 13) hx hb hts hiX10 hown hK hP 0 rfl rfl 0 (by decide) (hts (.fieldLink RX10 12 "TributePitches" "lode" "LTributePitches$Lode;") (List.mem_of_getElem? (i := 1) rfl)) (fun _ h9 => h9) rfl dX10_good_34 ?_
        refine va_get (D := (dC, dI)) (ci := 3) (v := .ref (cs_X zc 0 2)) (C := RX3) (T := TX3) (N := 5) hx hb hts hiX3 hown hK hP 1 rfl rfl 0 (by decide) (hts (.fieldLink RX10 86 "TributePitches$Lode" "lows" "[I") (List.mem_of_getElem? (i := 2) rfl)) (fun _ h9 => h9) rfl dX10_good_37 ?_
        refine lv_iload hx hb dX10_good_40 (lv_at hl 0 rfl) ?_
        refine va_iald hx hb hK hP 2 0 rfl rfl (sq_in c2) dX10_good_42 ?_
        refine lv_goto (tgt := 56) hx hb dX10_good_43 (by decide) ?_
        subst hQ
        exact W.iret (v := (cs_I zc 0) (8 * y + x).toNatClampNeg) hx hb hr (fun t ht hW => ⟨⟨(cs_I zc 0) (8 * y + x).toNatClampNeg, zc, rfl, ⟨⟨hI, rfl⟩, (Or.inr (Or.inl ⟨c2, c4, c6, rfl, rfl⟩))⟩, (by rw [ht]; exact hPk), va_K.moved hW.alike hKk, kDA_self hDk⟩, (kw_same hPk ht).2⟩) (fun q h => absurd h List.not_mem_nil) dX10_good_56
    · skip
      have c4 := (fa_bool_prop hr3).1.mp c4
      refine lv_bipush (v := (-2)) hx hb dX10_good_19 (by decide) ?_
      subst hQ
      exact W.iret (v := (-2)) hx hb hr (fun t ht hW => ⟨⟨(-2), zc, rfl, ⟨⟨hI, rfl⟩, (Or.inr (Or.inr (Or.inl ⟨c2, c4, rfl, rfl⟩)))⟩, (by rw [ht]; exact hPk), va_K.moved hW.alike hKk, kDA_self hDk⟩, (kw_same hPk ht).2⟩) (fun q h => absurd h List.not_mem_nil) dX10_good_21
  · skip
    have c2 := (fa_bool_prop hr1).1.mp c2
    refine lv_iconst (v := (-1)) hx hb dX10_good_8 (by decide) ?_
    subst hQ
    exact W.iret (v := (-1)) hx hb hr (fun t ht hW => ⟨⟨(-1), zc, rfl, ⟨⟨hI, rfl⟩, (Or.inr (Or.inr (Or.inr ⟨c2, rfl, rfl⟩)))⟩, (by rw [ht]; exact hPk), va_K.moved hW.alike hKk, kDA_self hDk⟩, (kw_same hPk ht).2⟩) (fun q h => absurd h List.not_mem_nil) dX10_good_9
def pC_money (zc : CS) (t : Int32) (wh : Int32) (r : Int64) (u : CS) : Prop :=
  ((∀ j, j < cs_n zc 2 → t ≠ nI j) ∧ r = ((-9223372036854775808)) ∧ u = zc) ∨
  (∃ jt : Nat, t = nI jt ∧ (jt < cs_n zc 2) ∧ wh = 0 ∧ r = (cs_L zc 3 jt) ∧ u = zc) ∨
  (∃ jt : Nat, t = nI jt ∧ (jt < cs_n zc 2) ∧ wh = 1 ∧ r = (cs_L zc 4 jt) ∧ u = zc) ∨
  (∃ jt : Nat, t = nI jt ∧ (jt < cs_n zc 2) ∧ wh = 2 ∧ r = (cs_L zc 5 jt) ∧ u = zc) ∨
  (∃ jt : Nat, t = nI jt ∧ (jt < cs_n zc 2) ∧ wh = 3 ∧ r = (cs_L zc 6 jt) ∧ u = zc) ∨
  (∃ jt : Nat, t = nI jt ∧ (jt < cs_n zc 2) ∧ wh = 4 ∧ r = (cs_L zc 1 jt) ∧ u = zc) ∨
  (∃ jt : Nat, t = nI jt ∧ (jt < cs_n zc 2) ∧ wh = 5 ∧ r = (cs_L zc 2 jt) ∧ u = zc) ∨
  (∃ jt : Nat, t = nI jt ∧ (jt < cs_n zc 2) ∧ (¬ wh = 0) ∧ (¬ wh = 1) ∧ (¬ wh = 2) ∧ (¬ wh = 3) ∧ (¬ wh = 4) ∧ (¬ wh = 5) ∧ r = ((-9223372036854775808)) ∧ u = zc)
set_option maxHeartbeats 4000000 in
set_option maxRecDepth 100000 in
theorem K_money (l : Launch) (dC : Nat → ClassId) (dI : Nat → Nat → Nat) (cA : Nat → ClassId) (sz : Nat) (zc : CS) (t : Int32) (wh : Int32) (hI : invC zc) : Met l yX10_money wsX10_money ({ frames := 2, cells := 0, slots := 0, locals := 60 }) (kw (dC, dI) (ctys cA) (cF cA zc) sz [.ref (cs_X zc 0 0), .int t, .int wh]) (kQl (dC, dI) (ctys cA) (cF cA zc) sz (cF cA) (fun r u => (invC u ∧ cs_X u 0 0 = cs_X zc 0 0) ∧ pC_money zc t wh r u)) 0 0 (kA (cF cA zc) sz) := by
  refine kw_met (cc := cX10_money) (maxL := 4) (ret := (some .long)) (by decide) rfl (Nat.le_of_ble_eq_true rfl) ?_
  intro p e s m below meth c0 hx hb hr hml hown hlocks hnm hts hPk hKk hDk hN hsz ls hl
  subst hsz
  have hK : va_K (dC, dI) vwCl [(cA 0, .int), (cA 1, .object RX6), (cA 2, .object RX2), (cA 3, .object RX8), (cA 4, .object RX5), (cA 5, .object RX7)] s := hKk
  obtain ⟨⟨hn0, hn1, hn2, hn3, hn4, hn5⟩, hpi, hgk, htk, hpk, hsh⟩ := id hI
  have hl : lv_has ls 4 [(0, .ref (cs_X zc 0 0)), (1, .int t), (2, .int wh)] := hl
  have hiX8 : ∀ w ∈ wsX80, w ∈ wsX10_money := fun _ h => List.mem_cons_of_mem _ (List.mem_append_left _ (List.mem_append_right _ (h)))
  generalize hQ : MQ _ _ _ _ _ _ _ = Q
  rcases ixd t (cs_n zc 2) with hnojt | ⟨jt, hjt, rfl⟩
  · skip
    have hks : kAll (cF cA zc) [(0, 0), (0, 8)] [cTP zc, cR8 cA zc] := ⟨(kF_tp (cA := cA) (z := zc)), (kF_r8 (cA := cA) (z := zc)), trivial⟩
    have hP : va_P (dC, dI) vwCl [cTP zc, cR8 cA zc] s.heap := kAll_P hPk hks
    have hD : va_D (va_A [cTP zc, cR8 cA zc] s.heap.size) [cTP zc, cR8 cA zc] := (kAll_D hDk hks (by simp)).self
    have hA : ∀ q : Nat, s.heap.size ≤ q → va_A [cTP zc, cR8 cA zc] s.heap.size q := fun q h => Or.inr h
    have hS : va_S (va_A [cTP zc, cR8 cA zc] s.heap.size) s.heap s.heap [] := va_S.rf
    refine lv_aload_n hx hb dX10_money_0 rfl (lv_at hl 0 rfl) ?_
    refine lv_iload_n hx hb dX10_money_1 rfl (lv_at hl 1 rfl) ?_
    have hPc := hP.sub (ws' := [cTP zc]) [0] rfl
    have hDc := hD.sub (ws' := [cTP zc]) [0] (by decide) rfl
    have hKc := hK.sub (tys' := []) [] rfl
    refine va_csq (va_Run.run (va_runV (As := [.int t]) (rest := []) ⟨hx, hb, hml, hown, hts⟩ (s_takeAt_no l dC dI  _ (cs_X zc 0 0) (.ref (cs_X zc 0 1)) (.ref (cs_X zc 0 6)) (.ref (cs_X zc 0 7)) (.ref (cs_X zc 0 8)) (.ref (cs_X zc 0 9)) (.ref (cs_X zc 0 10)) (.ref (cs_X zc 0 11)) (.int (nI (cs_n zc 0))) (.int (nI (cs_n zc 1))) (.int (nI (cs_n zc 3))) (va_rf (opN (cs_n zc 4) (fun _ => cs_X zc 5 0))) (.int (cs_i zc 2)) t (cs_n zc 2) (by omega) hnojt) (cwV 1 hts gX10_money_X10_takeAt rfl rfl rfl (by decide +kernel) ⟨Nat.le_of_ble_eq_true rfl, Nat.le_of_ble_eq_true rfl⟩) (pw_preV (va_recv hKc hPc (ci := 10) (q0 := 0) rfl rfl) hPc hKc hDc hN) rfl rfl hl.1 rfl (lv_room (Nat.le_of_ble_eq_true rfl)) dX10_money_2 ⟨Nat.le_of_ble_eq_true rfl, Nat.le_of_ble_eq_true rfl⟩)) (fun r1 hr1 => ?_)
    have hr1 : r1 = none := hr1
    subst hr1
    refine W.eq (g2 := F0 m 5 ls [.null]) rfl ?_
    refine lv_astore_nN (lv' := [(3, .null), (0, .ref (cs_X zc 0 0)), (1, .int t), (2, .int wh)]) hx hb dX10_money_5 rfl hl (by decide) rfl (fun ls hl => ?_)
    refine lv_aload_nN hx hb dX10_money_6 rfl (lv_at hl 0 rfl) ?_
    refine lv_ifnonnullN hx hb dX10_money_7 ?_
    refine lv_ldc2 (v := (-9223372036854775808)) hx hb hown (hts (.constantLong RX10 137 (-9223372036854775808)) (List.mem_of_getElem? (i := 1) rfl)) dX10_money_10 ?_
    subst hQ
    exact W.lret (v := (-9223372036854775808)) hx hb hr (fun t ht hW => ⟨⟨(-9223372036854775808), zc, rfl, ⟨⟨hI, rfl⟩, (Or.inl ⟨hnojt, rfl, rfl⟩)⟩, (by rw [ht]; exact hPk), va_K.moved hW.alike hKk, kDA_self hDk⟩, (kw_same hPk ht).2⟩) (fun q h => absurd h List.not_mem_nil) dX10_money_13
  · skip
    have hks : kAll (cF cA zc) [(0, 0), (0, 8), (3, jt)] [cTP zc, cR8 cA zc, cTa zc jt] := ⟨(kF_tp (cA := cA) (z := zc)), (kF_r8 (cA := cA) (z := zc)), (kF_ta (z := zc) hjt), trivial⟩
    have hP : va_P (dC, dI) vwCl [cTP zc, cR8 cA zc, cTa zc jt] s.heap := kAll_P hPk hks
    have hD : va_D (va_A [cTP zc, cR8 cA zc, cTa zc jt] s.heap.size) [cTP zc, cR8 cA zc, cTa zc jt] := (kAll_D hDk hks (by simp)).self
    have hA : ∀ q : Nat, s.heap.size ≤ q → va_A [cTP zc, cR8 cA zc, cTa zc jt] s.heap.size q := fun q h => Or.inr h
    have hS : va_S (va_A [cTP zc, cR8 cA zc, cTa zc jt] s.heap.size) s.heap s.heap [] := va_S.rf
    refine lv_aload_n hx hb dX10_money_0 rfl (lv_at hl 0 rfl) ?_
    refine lv_iload_n hx hb dX10_money_1 rfl (lv_at hl 1 rfl) ?_
    have hPc := hP.sub (ws' := [cTP zc, cR8 cA zc]) [0, 1] rfl
    have hDc := hD.sub (ws' := [cTP zc, cR8 cA zc]) [0, 1] (by decide) rfl
    have hKc := hK.sub (tys' := [(cA 3, .object RX8)]) [3] rfl
    refine va_csq (va_Run.run (va_runV (As := [.int (nI jt)]) (rest := []) ⟨hx, hb, hml, hown, hts⟩ (s_takeAt_yes l dC dI (cA 3) _ (cs_X zc 0 0) (.ref (cs_X zc 0 1)) (.ref (cs_X zc 0 6)) (.ref (cs_X zc 0 7)) (.ref (cs_X zc 0 9)) (.ref (cs_X zc 0 10)) (.ref (cs_X zc 0 11)) (.int (nI (cs_n zc 0))) (.int (nI (cs_n zc 1))) (.int (nI (cs_n zc 3))) (va_rf (opN (cs_n zc 4) (fun _ => cs_X zc 5 0))) (.int (cs_i zc 2)) (cs_X zc 0 8) jt (cs_n zc 2) (cs_X zc 3 jt) (rfN (cs_n zc 2) (cs_X zc 3)) hjt (by omega) (rfN_at hjt)) (cwV 1 hts gX10_money_X10_takeAt rfl rfl rfl (by decide +kernel) ⟨Nat.le_of_ble_eq_true rfl, Nat.le_of_ble_eq_true rfl⟩) (pw_preV (va_recv hKc hPc (ci := 10) (q0 := 0) rfl rfl) hPc hKc hDc hN) rfl rfl hl.1 rfl (lv_room (Nat.le_of_ble_eq_true rfl)) dX10_money_2 ⟨Nat.le_of_ble_eq_true rfl, Nat.le_of_ble_eq_true rfl⟩)) (fun r2 hr2 => ?_)
    have hr2 : r2 = some (cs_X zc 3 jt) := hr2
    subst hr2
    refine W.eq (g2 := F0 m 5 ls [.ref (cs_X zc 3 jt)]) rfl ?_
    refine lv_astore_n (lv' := [(3, .ref (cs_X zc 3 jt)), (0, .ref (cs_X zc 0 0)), (1, .int (nI jt)), (2, .int wh)]) hx hb dX10_money_5 rfl hl (by decide) rfl (fun ls hl => ?_)
    refine lv_aload_n hx hb dX10_money_6 rfl (lv_at hl 0 rfl) ?_
    refine lv_ifnonnull (tgt := 14) hx hb dX10_money_7 (by decide) ?_
    refine lv_iload_n hx hb dX10_money_14 rfl (lv_at hl 3 rfl) ?_
    by_cases hw3 : wh = 0
    · subst hw3
      refine lv_tableIn (off := 37) (tgt := 52) hx hb dX10_money_15 (by decide) (by decide) rfl (by decide) ?_
      refine lv_aload_n hx hb dX10_money_52 rfl (lv_at hl 0 rfl) ?_
      refine va_get (D := (dC, dI)) (ci := 8) (v := .long (cs_L zc 3 jt)) (C := RX8) (T := TX8) (N := 12) hx hb hts hiX8 hown hK hP 2 rfl rfl 6 (by decide) (hts (.fieldLink RX10 249 "TributePitches$Take" "worths" "J") (List.mem_of_getElem? (i := 2) rfl)) (fun _ h9 => h9) rfl dX10_money_53 ?_
      subst hQ
      exact W.lret (v := cs_L zc 3 jt) hx hb hr (fun t ht hW => ⟨⟨cs_L zc 3 jt, zc, rfl, ⟨⟨hI, rfl⟩, (Or.inr (Or.inl ⟨jt, rfl, hjt, rfl, rfl, rfl⟩))⟩, (by rw [ht]; exact hPk), va_K.moved hW.alike hKk, kDA_self hDk⟩, (kw_same hPk ht).2⟩) (fun q h => absurd h List.not_mem_nil) dX10_money_56
    by_cases hw4 : wh = 1
    · subst hw4
      refine lv_tableIn (off := 42) (tgt := 57) hx hb dX10_money_15 (by decide) (by decide) rfl (by decide) ?_
      refine lv_aload_n hx hb dX10_money_57 rfl (lv_at hl 0 rfl) ?_
      refine va_get (D := (dC, dI)) (ci := 8) (v := .long (cs_L zc 4 jt)) (C := RX8) (T := TX8) (N := 12) hx hb hts hiX8 hown hK hP 2 rfl rfl 7 (by decide) (hts (.fieldLink RX10 253 "TributePitches$Take" "costs" "J") (List.mem_of_getElem? (i := 3) rfl)) (fun _ h9 => h9) rfl dX10_money_58 ?_
      subst hQ
      exact W.lret (v := cs_L zc 4 jt) hx hb hr (fun t ht hW => ⟨⟨cs_L zc 4 jt, zc, rfl, ⟨⟨hI, rfl⟩, (Or.inr (Or.inr (Or.inl ⟨jt, rfl, hjt, rfl, rfl, rfl⟩)))⟩, (by rw [ht]; exact hPk), va_K.moved hW.alike hKk, kDA_self hDk⟩, (kw_same hPk ht).2⟩) (fun q h => absurd h List.not_mem_nil) dX10_money_61
    by_cases hw5 : wh = 2
    · subst hw5
      refine lv_tableIn (off := 47) (tgt := 62) hx hb dX10_money_15 (by decide) (by decide) rfl (by decide) ?_
      refine lv_aload_n hx hb dX10_money_62 rfl (lv_at hl 0 rfl) ?_
      refine va_get (D := (dC, dI)) (ci := 8) (v := .long (cs_L zc 5 jt)) (C := RX8) (T := TX8) (N := 12) hx hb hts hiX8 hown hK hP 2 rfl rfl 8 (by decide) (hts (.fieldLink RX10 256 "TributePitches$Take" "ahead" "J") (List.mem_of_getElem? (i := 4) rfl)) (fun _ h9 => h9) rfl dX10_money_63 ?_
      subst hQ
      exact W.lret (v := cs_L zc 5 jt) hx hb hr (fun t ht hW => ⟨⟨cs_L zc 5 jt, zc, rfl, ⟨⟨hI, rfl⟩, (Or.inr (Or.inr (Or.inr (Or.inl ⟨jt, rfl, hjt, rfl, rfl, rfl⟩))))⟩, (by rw [ht]; exact hPk), va_K.moved hW.alike hKk, kDA_self hDk⟩, (kw_same hPk ht).2⟩) (fun q h => absurd h List.not_mem_nil) dX10_money_66
    by_cases hw6 : wh = 3
    · subst hw6
      refine lv_tableIn (off := 52) (tgt := 67) hx hb dX10_money_15 (by decide) (by decide) rfl (by decide) ?_
      refine lv_aload_n hx hb dX10_money_67 rfl (lv_at hl 0 rfl) ?_
      refine va_get (D := (dC, dI)) (ci := 8) (v := .long (cs_L zc 6 jt)) (C := RX8) (T := TX8) (N := 12) hx hb hts hiX8 hown hK hP 2 rfl rfl 9 (by decide) (hts (.fieldLink RX10 262 "TributePitches$Take" "pay" "J") (List.mem_of_getElem? (i := 5) rfl)) (fun _ h9 => h9) rfl dX10_money_68 ?_
      subst hQ
      exact W.lret (v := cs_L zc 6 jt) hx hb hr (fun t ht hW => ⟨⟨cs_L zc 6 jt, zc, rfl, ⟨⟨hI, rfl⟩, (Or.inr (Or.inr (Or.inr (Or.inr (Or.inl ⟨jt, rfl, hjt, rfl, rfl, rfl⟩)))))⟩, (by rw [ht]; exact hPk), va_K.moved hW.alike hKk, kDA_self hDk⟩, (kw_same hPk ht).2⟩) (fun q h => absurd h List.not_mem_nil) dX10_money_71
    by_cases hw7 : wh = 4
    · subst hw7
      refine lv_tableIn (off := 57) (tgt := 72) hx hb dX10_money_15 (by decide) (by decide) rfl (by decide) ?_
      refine lv_aload_n hx hb dX10_money_72 rfl (lv_at hl 0 rfl) ?_
      refine va_get (D := (dC, dI)) (ci := 8) (v := .long (cs_L zc 1 jt)) (C := RX8) (T := TX8) (N := 12) hx hb hts hiX8 hown hK hP 2 rfl rfl 4 (by decide) (hts (.fieldLink RX10 203 "TributePitches$Take" "least" "J") (List.mem_of_getElem? (i := 6) rfl)) (fun _ h9 => h9) rfl dX10_money_73 ?_
      subst hQ
      exact W.lret (v := cs_L zc 1 jt) hx hb hr (fun t ht hW => ⟨⟨cs_L zc 1 jt, zc, rfl, ⟨⟨hI, rfl⟩, (Or.inr (Or.inr (Or.inr (Or.inr (Or.inr (Or.inl ⟨jt, rfl, hjt, rfl, rfl, rfl⟩))))))⟩, (by rw [ht]; exact hPk), va_K.moved hW.alike hKk, kDA_self hDk⟩, (kw_same hPk ht).2⟩) (fun q h => absurd h List.not_mem_nil) dX10_money_76
    by_cases hw8 : wh = 5
    · subst hw8
      refine lv_tableIn (off := 62) (tgt := 77) hx hb dX10_money_15 (by decide) (by decide) rfl (by decide) ?_
      refine lv_aload_n hx hb dX10_money_77 rfl (lv_at hl 0 rfl) ?_
      refine va_get (D := (dC, dI)) (ci := 8) (v := .long (cs_L zc 2 jt)) (C := RX8) (T := TX8) (N := 12) hx hb hts hiX8 hown hK hP 2 rfl rfl 5 (by decide) (hts (.fieldLink RX10 207 "TributePitches$Take" "greatest" "J") (List.mem_of_getElem? (i := 7) rfl)) (fun _ h9 => h9) rfl dX10_money_78 ?_
      subst hQ
      exact W.lret (v := cs_L zc 2 jt) hx hb hr (fun t ht hW => ⟨⟨cs_L zc 2 jt, zc, rfl, ⟨⟨hI, rfl⟩, (Or.inr (Or.inr (Or.inr (Or.inr (Or.inr (Or.inr (Or.inl ⟨jt, rfl, hjt, rfl, rfl, rfl⟩)))))))⟩, (by rw [ht]; exact hPk), va_K.moved hW.alike hKk, kDA_self hDk⟩, (kw_same hPk ht).2⟩) (fun q h => absurd h List.not_mem_nil) dX10_money_81
    refine lv_tableOut (tgt := 82) hx hb dX10_money_15 (tb_out6 hw3 hw4 hw5 hw6 hw7 hw8) (by decide) ?_
    refine lv_ldc2 (v := (-9223372036854775808)) hx hb hown (hts (.constantLong RX10 137 (-9223372036854775808)) (List.mem_of_getElem? (i := 1) rfl)) dX10_money_82 ?_
    subst hQ
    exact W.lret (v := (-9223372036854775808)) hx hb hr (fun t ht hW => ⟨⟨(-9223372036854775808), zc, rfl, ⟨⟨hI, rfl⟩, (Or.inr (Or.inr (Or.inr (Or.inr (Or.inr (Or.inr (Or.inr ⟨jt, rfl, hjt, hw3, hw4, hw5, hw6, hw7, hw8, rfl, rfl⟩)))))))⟩, (by rw [ht]; exact hPk), va_K.moved hW.alike hKk, kDA_self hDk⟩, (kw_same hPk ht).2⟩) (fun q h => absurd h List.not_mem_nil) dX10_money_85
def pC_spend (zc : CS) (t : Int32) (wh : Int32) (pn : Int32) (r : Int64) (u : CS) : Prop :=
  ((∀ j, j < cs_n zc 2 → t ≠ nI j) ∧ r = ((-9223372036854775808)) ∧ u = zc) ∨
  (∃ jt : Nat, t = nI jt ∧ (jt < cs_n zc 2) ∧ (¬ (0 ≤ wh ∧ wh ≤ 1)) ∧ r = ((-9223372036854775808)) ∧ u = zc) ∨
  (∃ jt : Nat, t = nI jt ∧ (jt < cs_n zc 2) ∧ (0 ≤ wh ∧ wh ≤ 1) ∧ (0 ≤ pn ∧ pn ≤ 100000) ∧ ((cs_I zc 33 jt) = 0) ∧ (¬ wh = 0) ∧ r = ((cs_L zc 5 jt) + pn.toInt64) ∧ u = (cs_i zc, cs_n zc, cs_I zc, va_up (cs_L zc) 5 (va_up (cs_L zc 5) jt ((cs_L zc 5 jt) + pn.toInt64)), cs_N zc, cs_S zc, cs_X zc)) ∨
  (∃ jt : Nat, t = nI jt ∧ (jt < cs_n zc 2) ∧ (0 ≤ wh ∧ wh ≤ 1) ∧ (0 ≤ pn ∧ pn ≤ 100000) ∧ ((cs_I zc 33 jt) = 0) ∧ (wh = 0) ∧ r = ((cs_L zc 4 jt) + pn.toInt64) ∧ u = (cs_i zc, cs_n zc, cs_I zc, va_up (cs_L zc) 4 (va_up (cs_L zc 4) jt ((cs_L zc 4 jt) + pn.toInt64)), cs_N zc, cs_S zc, cs_X zc)) ∨
  (∃ jt : Nat, t = nI jt ∧ (jt < cs_n zc 2) ∧ (0 ≤ wh ∧ wh ≤ 1) ∧ (0 ≤ pn ∧ pn ≤ 100000) ∧ (¬ (cs_I zc 33 jt) = 0) ∧ r = ((-9223372036854775808)) ∧ u = zc) ∨
  (∃ jt : Nat, t = nI jt ∧ (jt < cs_n zc 2) ∧ (0 ≤ wh ∧ wh ≤ 1) ∧ (¬ (0 ≤ pn ∧ pn ≤ 100000)) ∧ r = ((-9223372036854775808)) ∧ u = zc)
set_option maxHeartbeats 4000000 in
theorem lf_spend_2 (cA : Nat → ClassId) (zc : CS) (wh : Int32) (pn : Int32) (jt : Nat) (hjt : jt < cs_n zc 2) (c4 : 0 ≤ wh ∧ wh ≤ 1) (c6 : 0 ≤ pn ∧ pn ≤ 100000) (c7 : (cs_I zc 33 jt) = 0) (c8 : ¬ wh = 0) (hI : invC zc) : invC (cs_i zc, cs_n zc, cs_I zc, va_up (cs_L zc) 5 (va_up (cs_L zc 5) jt ((cs_L zc 5 jt) + pn.toInt64)), cs_N zc, cs_S zc, cs_X zc) ∧ kAll (cF cA (cs_i zc, cs_n zc, cs_I zc, va_up (cs_L zc) 5 (va_up (cs_L zc 5) jt ((cs_L zc 5 jt) + pn.toInt64)), cs_N zc, cs_S zc, cs_X zc)) [(0, 0), (0, 8), (3, jt)] [cTP zc, cR8 cA zc, (cs_X zc 3 jt, .inr (8, [.int (nI jt), .int (cs_I zc 31 jt), .ref (cs_X zc 2 (cs_N zc 2 jt)), .ref (cs_X zc 1 (cs_N zc 3 jt)), .long (cs_L zc 1 jt), .long (cs_L zc 2 jt), .long (cs_L zc 3 jt), .long (cs_L zc 4 jt), .long ((cs_L zc 5 jt) + pn.toInt64), .long (cs_L zc 6 jt), .int (cs_I zc 32 jt), .int (cs_I zc 33 jt)]))] ∧ ∀ i j, (i, j) ∉ ([(0, 0), (0, 8), (3, jt)] : List (Nat × Nat)) → cF cA (cs_i zc, cs_n zc, cs_I zc, va_up (cs_L zc) 5 (va_up (cs_L zc 5) jt ((cs_L zc 5 jt) + pn.toInt64)), cs_N zc, cs_S zc, cs_X zc) i j = none ∨ ((i, j) ∉ ([(0, 0), (0, 8), (3, jt)] : List (Nat × Nat)) ∧ cF cA (cs_i zc, cs_n zc, cs_I zc, va_up (cs_L zc) 5 (va_up (cs_L zc 5) jt ((cs_L zc 5 jt) + pn.toInt64)), cs_N zc, cs_S zc, cs_X zc) i j = cF cA zc i j) := by
  obtain ⟨⟨hn0, hn1, hn2, hn3, hn4, hn5⟩, hpi, hgk, htk, hpk, hsh⟩ := id hI
  refine ⟨hI, ⟨(by (rw [(kF_tp (cA := cA) (z := (cs_i zc, cs_n zc, cs_I zc, va_up (cs_L zc) 5 (va_up (cs_L zc 5) jt ((cs_L zc 5 jt) + pn.toInt64)), cs_N zc, cs_S zc, cs_X zc)))]) <;> simp [cTP, cTPN, cTPA, cLo, cA2, cA3, cA4, cA5, cR6, cR7, cR8, cR9, cR10, cTr, cPi, cPiN, cPiT, cGa, cGaK, cTa, cPa, cAu, cAuN, cAuB, cSh, cSc, cs_i, cs_n, cs_I, cs_L, cs_N, cs_S, cs_X, va_up, upd, opN]), (by (rw [(kF_r8 (cA := cA) (z := (cs_i zc, cs_n zc, cs_I zc, va_up (cs_L zc) 5 (va_up (cs_L zc 5) jt ((cs_L zc 5 jt) + pn.toInt64)), cs_N zc, cs_S zc, cs_X zc)))]) <;> simp [cTP, cTPN, cTPA, cLo, cA2, cA3, cA4, cA5, cR6, cR7, cR8, cR9, cR10, cTr, cPi, cPiN, cPiT, cGa, cGaK, cTa, cPa, cAu, cAuN, cAuB, cSh, cSc, cs_i, cs_n, cs_I, cs_L, cs_N, cs_S, cs_X, va_up, upd, opN]), (by (rw [(kF_ta (z := (cs_i zc, cs_n zc, cs_I zc, va_up (cs_L zc) 5 (va_up (cs_L zc 5) jt ((cs_L zc 5 jt) + pn.toInt64)), cs_N zc, cs_S zc, cs_X zc)) hjt)]) <;> simp [cTP, cTPN, cTPA, cLo, cA2, cA3, cA4, cA5, cR6, cR7, cR8, cR9, cR10, cTr, cPi, cPiN, cPiT, cGa, cGaK, cTa, cPa, cAu, cAuN, cAuB, cSh, cSc, cs_i, cs_n, cs_I, cs_L, cs_N, cs_S, cs_X, va_up, upd, opN]), trivial⟩, ?_⟩
  intro i j hij
  refine Or.inr ⟨hij, ?_⟩
  rcases i with _ | _ | _ | _ | _ | _ | _ | _ | i
  · rcases j with _ | _ | _ | _ | _ | _ | _ | _ | _ | _ | _ | _ | j
    · exact absurd (by simp) hij
    · show some (cLo (cs_i zc, cs_n zc, cs_I zc, va_up (cs_L zc) 5 (va_up (cs_L zc 5) jt ((cs_L zc 5 jt) + pn.toInt64)), cs_N zc, cs_S zc, cs_X zc)) = some (cLo zc); simp [cLo, cs_i, cs_n, cs_I, cs_L, cs_N, cs_S, cs_X, va_up]
    · show some (cA2 cA (cs_i zc, cs_n zc, cs_I zc, va_up (cs_L zc) 5 (va_up (cs_L zc 5) jt ((cs_L zc 5 jt) + pn.toInt64)), cs_N zc, cs_S zc, cs_X zc)) = some (cA2 cA zc); simp [cA2, cs_i, cs_n, cs_I, cs_L, cs_N, cs_S, cs_X, va_up]
    · show some (cA3 cA (cs_i zc, cs_n zc, cs_I zc, va_up (cs_L zc) 5 (va_up (cs_L zc 5) jt ((cs_L zc 5 jt) + pn.toInt64)), cs_N zc, cs_S zc, cs_X zc)) = some (cA3 cA zc); simp [cA3, cs_i, cs_n, cs_I, cs_L, cs_N, cs_S, cs_X, va_up]
    · show some (cA4 cA (cs_i zc, cs_n zc, cs_I zc, va_up (cs_L zc) 5 (va_up (cs_L zc 5) jt ((cs_L zc 5 jt) + pn.toInt64)), cs_N zc, cs_S zc, cs_X zc)) = some (cA4 cA zc); simp [cA4, cs_i, cs_n, cs_I, cs_L, cs_N, cs_S, cs_X, va_up]
    · show some (cA5 cA (cs_i zc, cs_n zc, cs_I zc, va_up (cs_L zc) 5 (va_up (cs_L zc 5) jt ((cs_L zc 5 jt) + pn.toInt64)), cs_N zc, cs_S zc, cs_X zc)) = some (cA5 cA zc); simp [cA5, cs_i, cs_n, cs_I, cs_L, cs_N, cs_S, cs_X, va_up]
    · show some (cR6 cA (cs_i zc, cs_n zc, cs_I zc, va_up (cs_L zc) 5 (va_up (cs_L zc 5) jt ((cs_L zc 5 jt) + pn.toInt64)), cs_N zc, cs_S zc, cs_X zc)) = some (cR6 cA zc); simp [cR6, cs_i, cs_n, cs_I, cs_L, cs_N, cs_S, cs_X, va_up]
    · show some (cR7 cA (cs_i zc, cs_n zc, cs_I zc, va_up (cs_L zc) 5 (va_up (cs_L zc 5) jt ((cs_L zc 5 jt) + pn.toInt64)), cs_N zc, cs_S zc, cs_X zc)) = some (cR7 cA zc); simp [cR7, cs_i, cs_n, cs_I, cs_L, cs_N, cs_S, cs_X, va_up]
    · exact absurd (by simp) hij
    · show some (cR9 cA (cs_i zc, cs_n zc, cs_I zc, va_up (cs_L zc) 5 (va_up (cs_L zc 5) jt ((cs_L zc 5 jt) + pn.toInt64)), cs_N zc, cs_S zc, cs_X zc)) = some (cR9 cA zc); simp [cR9, cs_i, cs_n, cs_I, cs_L, cs_N, cs_S, cs_X, va_up]
    · show some (cR10 cA (cs_i zc, cs_n zc, cs_I zc, va_up (cs_L zc) 5 (va_up (cs_L zc 5) jt ((cs_L zc 5 jt) + pn.toInt64)), cs_N zc, cs_S zc, cs_X zc)) = some (cR10 cA zc); simp [cR10, cs_i, cs_n, cs_I, cs_L, cs_N, cs_S, cs_X, va_up]
    · show some (cTr (cs_i zc, cs_n zc, cs_I zc, va_up (cs_L zc) 5 (va_up (cs_L zc 5) jt ((cs_L zc 5 jt) + pn.toInt64)), cs_N zc, cs_S zc, cs_X zc)) = some (cTr zc); simp [cTr, cs_i, cs_n, cs_I, cs_L, cs_N, cs_S, cs_X, va_up]
    · show (none : Option (Nat × va_E)) = none; rfl
  · show (if j < cs_n (cs_i zc, cs_n zc, cs_I zc, va_up (cs_L zc) 5 (va_up (cs_L zc 5) jt ((cs_L zc 5 jt) + pn.toInt64)), cs_N zc, cs_S zc, cs_X zc) 0 then some (cPi (cs_i zc, cs_n zc, cs_I zc, va_up (cs_L zc) 5 (va_up (cs_L zc 5) jt ((cs_L zc 5 jt) + pn.toInt64)), cs_N zc, cs_S zc, cs_X zc) j) else none) = if j < cs_n zc 0 then some (cPi zc j) else none
    simp [cPi, cs_i, cs_n, cs_I, cs_L, cs_N, cs_S, cs_X, va_up]
  · show (if j < cs_n (cs_i zc, cs_n zc, cs_I zc, va_up (cs_L zc) 5 (va_up (cs_L zc 5) jt ((cs_L zc 5 jt) + pn.toInt64)), cs_N zc, cs_S zc, cs_X zc) 1 then some (cGa (cs_i zc, cs_n zc, cs_I zc, va_up (cs_L zc) 5 (va_up (cs_L zc 5) jt ((cs_L zc 5 jt) + pn.toInt64)), cs_N zc, cs_S zc, cs_X zc) j) else none) = if j < cs_n zc 1 then some (cGa zc j) else none
    simp [cGa, cs_i, cs_n, cs_I, cs_L, cs_N, cs_S, cs_X, va_up]
  · have hne0 : j ≠ jt := fun q => hij (by rw [q]; simp)
    have e9 : cTa (cs_i zc, cs_n zc, cs_I zc, va_up (cs_L zc) 5 (va_up (cs_L zc 5) jt ((cs_L zc 5 jt) + pn.toInt64)), cs_N zc, cs_S zc, cs_X zc) j = cTa zc j := by simp [cTa, cs_i, cs_n, cs_I, cs_L, cs_N, cs_S, cs_X, va_up, hne0]
    show (if j < cs_n (cs_i zc, cs_n zc, cs_I zc, va_up (cs_L zc) 5 (va_up (cs_L zc 5) jt ((cs_L zc 5 jt) + pn.toInt64)), cs_N zc, cs_S zc, cs_X zc) 2 then some (cTa (cs_i zc, cs_n zc, cs_I zc, va_up (cs_L zc) 5 (va_up (cs_L zc 5) jt ((cs_L zc 5 jt) + pn.toInt64)), cs_N zc, cs_S zc, cs_X zc) j) else none) = if j < cs_n zc 2 then some (cTa zc j) else none
    (rw [e9]) <;> simp [cs_n, va_up]
  · show (if j < cs_n (cs_i zc, cs_n zc, cs_I zc, va_up (cs_L zc) 5 (va_up (cs_L zc 5) jt ((cs_L zc 5 jt) + pn.toInt64)), cs_N zc, cs_S zc, cs_X zc) 3 then some (cPa (cs_i zc, cs_n zc, cs_I zc, va_up (cs_L zc) 5 (va_up (cs_L zc 5) jt ((cs_L zc 5 jt) + pn.toInt64)), cs_N zc, cs_S zc, cs_X zc) j) else none) = if j < cs_n zc 3 then some (cPa zc j) else none
    simp [cPa, cs_i, cs_n, cs_I, cs_L, cs_N, cs_S, cs_X, va_up]
  · show (if j = 0 ∧ ¬ cs_n (cs_i zc, cs_n zc, cs_I zc, va_up (cs_L zc) 5 (va_up (cs_L zc 5) jt ((cs_L zc 5 jt) + pn.toInt64)), cs_N zc, cs_S zc, cs_X zc) 4 = 0 then some (cAu (cs_i zc, cs_n zc, cs_I zc, va_up (cs_L zc) 5 (va_up (cs_L zc 5) jt ((cs_L zc 5 jt) + pn.toInt64)), cs_N zc, cs_S zc, cs_X zc)) else none) = if j = 0 ∧ ¬ cs_n zc 4 = 0 then some (cAu zc) else none
    simp [cAu, cs_i, cs_n, cs_I, cs_L, cs_N, cs_S, cs_X, va_up]
  · show (if j < 4 then some (cSh (cs_i zc, cs_n zc, cs_I zc, va_up (cs_L zc) 5 (va_up (cs_L zc 5) jt ((cs_L zc 5 jt) + pn.toInt64)), cs_N zc, cs_S zc, cs_X zc) j) else none) = if j < 4 then some (cSh zc j) else none
    simp [cSh, cs_i, cs_n, cs_I, cs_L, cs_N, cs_S, cs_X, va_up]
  · show (if j < 4 then some (cSc cA (cs_i zc, cs_n zc, cs_I zc, va_up (cs_L zc) 5 (va_up (cs_L zc 5) jt ((cs_L zc 5 jt) + pn.toInt64)), cs_N zc, cs_S zc, cs_X zc) j) else none) = if j < 4 then some (cSc cA zc j) else none
    simp [cSc, cs_i, cs_n, cs_I, cs_L, cs_N, cs_S, cs_X, va_up]
  · show (none : Option (Nat × va_E)) = none; rfl
set_option maxHeartbeats 4000000 in
theorem lf_spend_3 (cA : Nat → ClassId) (zc : CS) (wh : Int32) (pn : Int32) (jt : Nat) (hjt : jt < cs_n zc 2) (c4 : 0 ≤ wh ∧ wh ≤ 1) (c6 : 0 ≤ pn ∧ pn ≤ 100000) (c7 : (cs_I zc 33 jt) = 0) (c8 : wh = 0) (hI : invC zc) : invC (cs_i zc, cs_n zc, cs_I zc, va_up (cs_L zc) 4 (va_up (cs_L zc 4) jt ((cs_L zc 4 jt) + pn.toInt64)), cs_N zc, cs_S zc, cs_X zc) ∧ kAll (cF cA (cs_i zc, cs_n zc, cs_I zc, va_up (cs_L zc) 4 (va_up (cs_L zc 4) jt ((cs_L zc 4 jt) + pn.toInt64)), cs_N zc, cs_S zc, cs_X zc)) [(0, 0), (0, 8), (3, jt)] [cTP zc, cR8 cA zc, (cs_X zc 3 jt, .inr (8, [.int (nI jt), .int (cs_I zc 31 jt), .ref (cs_X zc 2 (cs_N zc 2 jt)), .ref (cs_X zc 1 (cs_N zc 3 jt)), .long (cs_L zc 1 jt), .long (cs_L zc 2 jt), .long (cs_L zc 3 jt), .long ((cs_L zc 4 jt) + pn.toInt64), .long (cs_L zc 5 jt), .long (cs_L zc 6 jt), .int (cs_I zc 32 jt), .int (cs_I zc 33 jt)]))] ∧ ∀ i j, (i, j) ∉ ([(0, 0), (0, 8), (3, jt)] : List (Nat × Nat)) → cF cA (cs_i zc, cs_n zc, cs_I zc, va_up (cs_L zc) 4 (va_up (cs_L zc 4) jt ((cs_L zc 4 jt) + pn.toInt64)), cs_N zc, cs_S zc, cs_X zc) i j = none ∨ ((i, j) ∉ ([(0, 0), (0, 8), (3, jt)] : List (Nat × Nat)) ∧ cF cA (cs_i zc, cs_n zc, cs_I zc, va_up (cs_L zc) 4 (va_up (cs_L zc 4) jt ((cs_L zc 4 jt) + pn.toInt64)), cs_N zc, cs_S zc, cs_X zc) i j = cF cA zc i j) := by
  obtain ⟨⟨hn0, hn1, hn2, hn3, hn4, hn5⟩, hpi, hgk, htk, hpk, hsh⟩ := id hI
  refine ⟨hI, ⟨(by (rw [(kF_tp (cA := cA) (z := (cs_i zc, cs_n zc, cs_I zc, va_up (cs_L zc) 4 (va_up (cs_L zc 4) jt ((cs_L zc 4 jt) + pn.toInt64)), cs_N zc, cs_S zc, cs_X zc)))]) <;> simp [cTP, cTPN, cTPA, cLo, cA2, cA3, cA4, cA5, cR6, cR7, cR8, cR9, cR10, cTr, cPi, cPiN, cPiT, cGa, cGaK, cTa, cPa, cAu, cAuN, cAuB, cSh, cSc, cs_i, cs_n, cs_I, cs_L, cs_N, cs_S, cs_X, va_up, upd, opN]), (by (rw [(kF_r8 (cA := cA) (z := (cs_i zc, cs_n zc, cs_I zc, va_up (cs_L zc) 4 (va_up (cs_L zc 4) jt ((cs_L zc 4 jt) + pn.toInt64)), cs_N zc, cs_S zc, cs_X zc)))]) <;> simp [cTP, cTPN, cTPA, cLo, cA2, cA3, cA4, cA5, cR6, cR7, cR8, cR9, cR10, cTr, cPi, cPiN, cPiT, cGa, cGaK, cTa, cPa, cAu, cAuN, cAuB, cSh, cSc, cs_i, cs_n, cs_I, cs_L, cs_N, cs_S, cs_X, va_up, upd, opN]), (by (rw [(kF_ta (z := (cs_i zc, cs_n zc, cs_I zc, va_up (cs_L zc) 4 (va_up (cs_L zc 4) jt ((cs_L zc 4 jt) + pn.toInt64)), cs_N zc, cs_S zc, cs_X zc)) hjt)]) <;> simp [cTP, cTPN, cTPA, cLo, cA2, cA3, cA4, cA5, cR6, cR7, cR8, cR9, cR10, cTr, cPi, cPiN, cPiT, cGa, cGaK, cTa, cPa, cAu, cAuN, cAuB, cSh, cSc, cs_i, cs_n, cs_I, cs_L, cs_N, cs_S, cs_X, va_up, upd, opN]), trivial⟩, ?_⟩
  intro i j hij
  refine Or.inr ⟨hij, ?_⟩
  rcases i with _ | _ | _ | _ | _ | _ | _ | _ | i
  · rcases j with _ | _ | _ | _ | _ | _ | _ | _ | _ | _ | _ | _ | j
    · exact absurd (by simp) hij
    · show some (cLo (cs_i zc, cs_n zc, cs_I zc, va_up (cs_L zc) 4 (va_up (cs_L zc 4) jt ((cs_L zc 4 jt) + pn.toInt64)), cs_N zc, cs_S zc, cs_X zc)) = some (cLo zc); simp [cLo, cs_i, cs_n, cs_I, cs_L, cs_N, cs_S, cs_X, va_up]
    · show some (cA2 cA (cs_i zc, cs_n zc, cs_I zc, va_up (cs_L zc) 4 (va_up (cs_L zc 4) jt ((cs_L zc 4 jt) + pn.toInt64)), cs_N zc, cs_S zc, cs_X zc)) = some (cA2 cA zc); simp [cA2, cs_i, cs_n, cs_I, cs_L, cs_N, cs_S, cs_X, va_up]
    · show some (cA3 cA (cs_i zc, cs_n zc, cs_I zc, va_up (cs_L zc) 4 (va_up (cs_L zc 4) jt ((cs_L zc 4 jt) + pn.toInt64)), cs_N zc, cs_S zc, cs_X zc)) = some (cA3 cA zc); simp [cA3, cs_i, cs_n, cs_I, cs_L, cs_N, cs_S, cs_X, va_up]
    · show some (cA4 cA (cs_i zc, cs_n zc, cs_I zc, va_up (cs_L zc) 4 (va_up (cs_L zc 4) jt ((cs_L zc 4 jt) + pn.toInt64)), cs_N zc, cs_S zc, cs_X zc)) = some (cA4 cA zc); simp [cA4, cs_i, cs_n, cs_I, cs_L, cs_N, cs_S, cs_X, va_up]
    · show some (cA5 cA (cs_i zc, cs_n zc, cs_I zc, va_up (cs_L zc) 4 (va_up (cs_L zc 4) jt ((cs_L zc 4 jt) + pn.toInt64)), cs_N zc, cs_S zc, cs_X zc)) = some (cA5 cA zc); simp [cA5, cs_i, cs_n, cs_I, cs_L, cs_N, cs_S, cs_X, va_up]
    · show some (cR6 cA (cs_i zc, cs_n zc, cs_I zc, va_up (cs_L zc) 4 (va_up (cs_L zc 4) jt ((cs_L zc 4 jt) + pn.toInt64)), cs_N zc, cs_S zc, cs_X zc)) = some (cR6 cA zc); simp [cR6, cs_i, cs_n, cs_I, cs_L, cs_N, cs_S, cs_X, va_up]
    · show some (cR7 cA (cs_i zc, cs_n zc, cs_I zc, va_up (cs_L zc) 4 (va_up (cs_L zc 4) jt ((cs_L zc 4 jt) + pn.toInt64)), cs_N zc, cs_S zc, cs_X zc)) = some (cR7 cA zc); simp [cR7, cs_i, cs_n, cs_I, cs_L, cs_N, cs_S, cs_X, va_up]
    · exact absurd (by simp) hij
    · show some (cR9 cA (cs_i zc, cs_n zc, cs_I zc, va_up (cs_L zc) 4 (va_up (cs_L zc 4) jt ((cs_L zc 4 jt) + pn.toInt64)), cs_N zc, cs_S zc, cs_X zc)) = some (cR9 cA zc); simp [cR9, cs_i, cs_n, cs_I, cs_L, cs_N, cs_S, cs_X, va_up]
    · show some (cR10 cA (cs_i zc, cs_n zc, cs_I zc, va_up (cs_L zc) 4 (va_up (cs_L zc 4) jt ((cs_L zc 4 jt) + pn.toInt64)), cs_N zc, cs_S zc, cs_X zc)) = some (cR10 cA zc); simp [cR10, cs_i, cs_n, cs_I, cs_L, cs_N, cs_S, cs_X, va_up]
    · show some (cTr (cs_i zc, cs_n zc, cs_I zc, va_up (cs_L zc) 4 (va_up (cs_L zc 4) jt ((cs_L zc 4 jt) + pn.toInt64)), cs_N zc, cs_S zc, cs_X zc)) = some (cTr zc); simp [cTr, cs_i, cs_n, cs_I, cs_L, cs_N, cs_S, cs_X, va_up]
    · show (none : Option (Nat × va_E)) = none; rfl
  · show (if j < cs_n (cs_i zc, cs_n zc, cs_I zc, va_up (cs_L zc) 4 (va_up (cs_L zc 4) jt ((cs_L zc 4 jt) + pn.toInt64)), cs_N zc, cs_S zc, cs_X zc) 0 then some (cPi (cs_i zc, cs_n zc, cs_I zc, va_up (cs_L zc) 4 (va_up (cs_L zc 4) jt ((cs_L zc 4 jt) + pn.toInt64)), cs_N zc, cs_S zc, cs_X zc) j) else none) = if j < cs_n zc 0 then some (cPi zc j) else none
    simp [cPi, cs_i, cs_n, cs_I, cs_L, cs_N, cs_S, cs_X, va_up]
  · show (if j < cs_n (cs_i zc, cs_n zc, cs_I zc, va_up (cs_L zc) 4 (va_up (cs_L zc 4) jt ((cs_L zc 4 jt) + pn.toInt64)), cs_N zc, cs_S zc, cs_X zc) 1 then some (cGa (cs_i zc, cs_n zc, cs_I zc, va_up (cs_L zc) 4 (va_up (cs_L zc 4) jt ((cs_L zc 4 jt) + pn.toInt64)), cs_N zc, cs_S zc, cs_X zc) j) else none) = if j < cs_n zc 1 then some (cGa zc j) else none
    simp [cGa, cs_i, cs_n, cs_I, cs_L, cs_N, cs_S, cs_X, va_up]
  · have hne0 : j ≠ jt := fun q => hij (by rw [q]; simp)
    have e9 : cTa (cs_i zc, cs_n zc, cs_I zc, va_up (cs_L zc) 4 (va_up (cs_L zc 4) jt ((cs_L zc 4 jt) + pn.toInt64)), cs_N zc, cs_S zc, cs_X zc) j = cTa zc j := by simp [cTa, cs_i, cs_n, cs_I, cs_L, cs_N, cs_S, cs_X, va_up, hne0]
    show (if j < cs_n (cs_i zc, cs_n zc, cs_I zc, va_up (cs_L zc) 4 (va_up (cs_L zc 4) jt ((cs_L zc 4 jt) + pn.toInt64)), cs_N zc, cs_S zc, cs_X zc) 2 then some (cTa (cs_i zc, cs_n zc, cs_I zc, va_up (cs_L zc) 4 (va_up (cs_L zc 4) jt ((cs_L zc 4 jt) + pn.toInt64)), cs_N zc, cs_S zc, cs_X zc) j) else none) = if j < cs_n zc 2 then some (cTa zc j) else none
    (rw [e9]) <;> simp [cs_n, va_up]
  · show (if j < cs_n (cs_i zc, cs_n zc, cs_I zc, va_up (cs_L zc) 4 (va_up (cs_L zc 4) jt ((cs_L zc 4 jt) + pn.toInt64)), cs_N zc, cs_S zc, cs_X zc) 3 then some (cPa (cs_i zc, cs_n zc, cs_I zc, va_up (cs_L zc) 4 (va_up (cs_L zc 4) jt ((cs_L zc 4 jt) + pn.toInt64)), cs_N zc, cs_S zc, cs_X zc) j) else none) = if j < cs_n zc 3 then some (cPa zc j) else none
    simp [cPa, cs_i, cs_n, cs_I, cs_L, cs_N, cs_S, cs_X, va_up]
  · show (if j = 0 ∧ ¬ cs_n (cs_i zc, cs_n zc, cs_I zc, va_up (cs_L zc) 4 (va_up (cs_L zc 4) jt ((cs_L zc 4 jt) + pn.toInt64)), cs_N zc, cs_S zc, cs_X zc) 4 = 0 then some (cAu (cs_i zc, cs_n zc, cs_I zc, va_up (cs_L zc) 4 (va_up (cs_L zc 4) jt ((cs_L zc 4 jt) + pn.toInt64)), cs_N zc, cs_S zc, cs_X zc)) else none) = if j = 0 ∧ ¬ cs_n zc 4 = 0 then some (cAu zc) else none
    simp [cAu, cs_i, cs_n, cs_I, cs_L, cs_N, cs_S, cs_X, va_up]
  · show (if j < 4 then some (cSh (cs_i zc, cs_n zc, cs_I zc, va_up (cs_L zc) 4 (va_up (cs_L zc 4) jt ((cs_L zc 4 jt) + pn.toInt64)), cs_N zc, cs_S zc, cs_X zc) j) else none) = if j < 4 then some (cSh zc j) else none
    simp [cSh, cs_i, cs_n, cs_I, cs_L, cs_N, cs_S, cs_X, va_up]
  · show (if j < 4 then some (cSc cA (cs_i zc, cs_n zc, cs_I zc, va_up (cs_L zc) 4 (va_up (cs_L zc 4) jt ((cs_L zc 4 jt) + pn.toInt64)), cs_N zc, cs_S zc, cs_X zc) j) else none) = if j < 4 then some (cSc cA zc j) else none
    simp [cSc, cs_i, cs_n, cs_I, cs_L, cs_N, cs_S, cs_X, va_up]
  · show (none : Option (Nat × va_E)) = none; rfl
set_option maxHeartbeats 4000000 in
set_option maxRecDepth 100000 in
theorem K_spend (l : Launch) (dC : Nat → ClassId) (dI : Nat → Nat → Nat) (cA : Nat → ClassId) (sz : Nat) (zc : CS) (t : Int32) (wh : Int32) (pn : Int32) (hI : invC zc) : Met l yX10_spend wsX10_spend ({ frames := 2, cells := 0, slots := 0, locals := 60 }) (kw (dC, dI) (ctys cA) (cF cA zc) sz [.ref (cs_X zc 0 0), .int t, .int wh, .int pn]) (kQl (dC, dI) (ctys cA) (cF cA zc) sz (cF cA) (fun r u => (invC u ∧ cs_X u 0 0 = cs_X zc 0 0) ∧ pC_spend zc t wh pn r u)) 0 0 (kA (cF cA zc) sz) := by
  refine kw_met (cc := cX10_spend) (maxL := 5) (ret := (some .long)) (by decide) rfl (Nat.le_of_ble_eq_true rfl) ?_
  intro p e s m below meth c0 hx hb hr hml hown hlocks hnm hts hPk hKk hDk hN hsz ls hl
  subst hsz
  have hK : va_K (dC, dI) vwCl [(cA 0, .int), (cA 1, .object RX6), (cA 2, .object RX2), (cA 3, .object RX8), (cA 4, .object RX5), (cA 5, .object RX7)] s := hKk
  obtain ⟨⟨hn0, hn1, hn2, hn3, hn4, hn5⟩, hpi, hgk, htk, hpk, hsh⟩ := id hI
  have hl : lv_has ls 5 [(0, .ref (cs_X zc 0 0)), (1, .int t), (2, .int wh), (3, .int pn)] := hl
  have hiX8 : ∀ w ∈ wsX80, w ∈ wsX10_spend := fun _ h => List.mem_cons_of_mem _ (List.mem_append_left _ (List.mem_append_right _ (h)))
  generalize hQ : MQ _ _ _ _ _ _ _ = Q
  rcases ixd t (cs_n zc 2) with hnojt | ⟨jt, hjt, rfl⟩
  · skip
    have hks : kAll (cF cA zc) [(0, 0), (0, 8)] [cTP zc, cR8 cA zc] := ⟨(kF_tp (cA := cA) (z := zc)), (kF_r8 (cA := cA) (z := zc)), trivial⟩
    have hP : va_P (dC, dI) vwCl [cTP zc, cR8 cA zc] s.heap := kAll_P hPk hks
    have hD : va_D (va_A [cTP zc, cR8 cA zc] s.heap.size) [cTP zc, cR8 cA zc] := (kAll_D hDk hks (by simp)).self
    have hA : ∀ q : Nat, s.heap.size ≤ q → va_A [cTP zc, cR8 cA zc] s.heap.size q := fun q h => Or.inr h
    have hS : va_S (va_A [cTP zc, cR8 cA zc] s.heap.size) s.heap s.heap [] := va_S.rf
    refine lv_aload_n hx hb dX10_spend_0 rfl (lv_at hl 0 rfl) ?_
    refine lv_iload_n hx hb dX10_spend_1 rfl (lv_at hl 1 rfl) ?_
    have hPc := hP.sub (ws' := [cTP zc]) [0] rfl
    have hDc := hD.sub (ws' := [cTP zc]) [0] (by decide) rfl
    have hKc := hK.sub (tys' := []) [] rfl
    refine va_csq (va_Run.run (va_runV (As := [.int t]) (rest := []) ⟨hx, hb, hml, hown, hts⟩ (s_takeAt_no l dC dI  _ (cs_X zc 0 0) (.ref (cs_X zc 0 1)) (.ref (cs_X zc 0 6)) (.ref (cs_X zc 0 7)) (.ref (cs_X zc 0 8)) (.ref (cs_X zc 0 9)) (.ref (cs_X zc 0 10)) (.ref (cs_X zc 0 11)) (.int (nI (cs_n zc 0))) (.int (nI (cs_n zc 1))) (.int (nI (cs_n zc 3))) (va_rf (opN (cs_n zc 4) (fun _ => cs_X zc 5 0))) (.int (cs_i zc 2)) t (cs_n zc 2) (by omega) hnojt) (cwV 1 hts gX10_spend_X10_takeAt rfl rfl rfl (by decide +kernel) ⟨Nat.le_of_ble_eq_true rfl, Nat.le_of_ble_eq_true rfl⟩) (pw_preV (va_recv hKc hPc (ci := 10) (q0 := 0) rfl rfl) hPc hKc hDc hN) rfl rfl hl.1 rfl (lv_room (Nat.le_of_ble_eq_true rfl)) dX10_spend_2 ⟨Nat.le_of_ble_eq_true rfl, Nat.le_of_ble_eq_true rfl⟩)) (fun r1 hr1 => ?_)
    have hr1 : r1 = none := hr1
    subst hr1
    refine W.eq (g2 := F0 m 5 ls [.null]) rfl ?_
    refine lv_astoreN (lv' := [(4, .null), (0, .ref (cs_X zc 0 0)), (1, .int t), (2, .int wh), (3, .int pn)]) hx hb dX10_spend_5 hl (by decide) rfl (fun ls hl => ?_)
    refine lv_aloadN hx hb dX10_spend_7 (lv_at hl 0 rfl) ?_
    refine lv_ifnullN (tgt := 31) hx hb dX10_spend_9 (by decide) ?_
    refine lv_ldc2 (v := (-9223372036854775808)) hx hb hown (hts (.constantLong RX10 137 (-9223372036854775808)) (List.mem_of_getElem? (i := 2) rfl)) dX10_spend_31 ?_
    subst hQ
    exact W.lret (v := (-9223372036854775808)) hx hb hr (fun t ht hW => ⟨⟨(-9223372036854775808), zc, rfl, ⟨⟨hI, rfl⟩, (Or.inl ⟨hnojt, rfl, rfl⟩)⟩, (by rw [ht]; exact hPk), va_K.moved hW.alike hKk, kDA_self hDk⟩, (kw_same hPk ht).2⟩) (fun q h => absurd h List.not_mem_nil) dX10_spend_34
  · skip
    have hks : kAll (cF cA zc) [(0, 0), (0, 8), (3, jt)] [cTP zc, cR8 cA zc, cTa zc jt] := ⟨(kF_tp (cA := cA) (z := zc)), (kF_r8 (cA := cA) (z := zc)), (kF_ta (z := zc) hjt), trivial⟩
    have hP : va_P (dC, dI) vwCl [cTP zc, cR8 cA zc, cTa zc jt] s.heap := kAll_P hPk hks
    have hD : va_D (va_A [cTP zc, cR8 cA zc, cTa zc jt] s.heap.size) [cTP zc, cR8 cA zc, cTa zc jt] := (kAll_D hDk hks (by simp)).self
    have hA : ∀ q : Nat, s.heap.size ≤ q → va_A [cTP zc, cR8 cA zc, cTa zc jt] s.heap.size q := fun q h => Or.inr h
    have hS : va_S (va_A [cTP zc, cR8 cA zc, cTa zc jt] s.heap.size) s.heap s.heap [] := va_S.rf
    refine lv_aload_n hx hb dX10_spend_0 rfl (lv_at hl 0 rfl) ?_
    refine lv_iload_n hx hb dX10_spend_1 rfl (lv_at hl 1 rfl) ?_
    have hPc := hP.sub (ws' := [cTP zc, cR8 cA zc]) [0, 1] rfl
    have hDc := hD.sub (ws' := [cTP zc, cR8 cA zc]) [0, 1] (by decide) rfl
    have hKc := hK.sub (tys' := [(cA 3, .object RX8)]) [3] rfl
    refine va_csq (va_Run.run (va_runV (As := [.int (nI jt)]) (rest := []) ⟨hx, hb, hml, hown, hts⟩ (s_takeAt_yes l dC dI (cA 3) _ (cs_X zc 0 0) (.ref (cs_X zc 0 1)) (.ref (cs_X zc 0 6)) (.ref (cs_X zc 0 7)) (.ref (cs_X zc 0 9)) (.ref (cs_X zc 0 10)) (.ref (cs_X zc 0 11)) (.int (nI (cs_n zc 0))) (.int (nI (cs_n zc 1))) (.int (nI (cs_n zc 3))) (va_rf (opN (cs_n zc 4) (fun _ => cs_X zc 5 0))) (.int (cs_i zc 2)) (cs_X zc 0 8) jt (cs_n zc 2) (cs_X zc 3 jt) (rfN (cs_n zc 2) (cs_X zc 3)) hjt (by omega) (rfN_at hjt)) (cwV 1 hts gX10_spend_X10_takeAt rfl rfl rfl (by decide +kernel) ⟨Nat.le_of_ble_eq_true rfl, Nat.le_of_ble_eq_true rfl⟩) (pw_preV (va_recv hKc hPc (ci := 10) (q0 := 0) rfl rfl) hPc hKc hDc hN) rfl rfl hl.1 rfl (lv_room (Nat.le_of_ble_eq_true rfl)) dX10_spend_2 ⟨Nat.le_of_ble_eq_true rfl, Nat.le_of_ble_eq_true rfl⟩)) (fun r2 hr2 => ?_)
    have hr2 : r2 = some (cs_X zc 3 jt) := hr2
    subst hr2
    refine W.eq (g2 := F0 m 5 ls [.ref (cs_X zc 3 jt)]) rfl ?_
    refine lv_astore (lv' := [(4, .ref (cs_X zc 3 jt)), (0, .ref (cs_X zc 0 0)), (1, .int (nI jt)), (2, .int wh), (3, .int pn)]) hx hb dX10_spend_5 hl (by decide) rfl (fun ls hl => ?_)
    refine lv_aload hx hb dX10_spend_7 (lv_at hl 0 rfl) ?_
    refine lv_ifnull hx hb dX10_spend_9 ?_
    refine lv_iload_n hx hb dX10_spend_12 rfl (lv_at hl 3 rfl) ?_
    refine lv_iconst (v := 0) hx hb dX10_spend_13 (by decide) ?_
    refine lv_iconst (v := 1) hx hb dX10_spend_14 (by decide) ?_
    refine vp_callSi (va_Run.run (va_runS (As := [.int wh, .int 0, .int 1]) (rest := []) ⟨hx, hb, hml, hown, hts⟩ (c_X10_isWithin l wh 0 1 ) (va_cwS 3 hts gX10_spend_X10_isWithin rfl rfl rfl (by decide +kernel) ⟨Nat.le_of_ble_eq_true rfl, Nat.le_of_ble_eq_true rfl⟩) (p0_preS hN) rfl rfl hl.1 rfl (lv_room (Nat.le_of_ble_eq_true rfl)) dX10_spend_15 ⟨Nat.le_of_ble_eq_true rfl, Nat.le_of_ble_eq_true rfl⟩)) (fun r3 hr3 => ?_)
    have hr3 : r3 = if 0 ≤ wh ∧ wh ≤ 1 then 1 else 0 := hr3
    refine lv_if_eq (tgt := 31) hx hb dX10_spend_18 (by decide) (fun c4 => ?_) (fun c4 => ?_)
    · skip
      have c4 := (fa_bool_prop hr3).1.mp c4
      refine lv_ldc2 (v := (-9223372036854775808)) hx hb hown (hts (.constantLong RX10 137 (-9223372036854775808)) (List.mem_of_getElem? (i := 2) rfl)) dX10_spend_31 ?_
      subst hQ
      exact W.lret (v := (-9223372036854775808)) hx hb hr (fun t ht hW => ⟨⟨(-9223372036854775808), zc, rfl, ⟨⟨hI, rfl⟩, (Or.inr (Or.inl ⟨jt, rfl, hjt, c4, rfl, rfl⟩))⟩, (by rw [ht]; exact hPk), va_K.moved hW.alike hKk, kDA_self hDk⟩, (kw_same hPk ht).2⟩) (fun q h => absurd h List.not_mem_nil) dX10_spend_34
    · skip
      have c4 := (fa_bool_prop hr3).2.mp c4
      refine lv_iload_n hx hb dX10_spend_21 rfl (lv_at hl 4 rfl) ?_
      refine lv_iconst (v := 0) hx hb dX10_spend_22 (by decide) ?_
      refine lv_ldc (v := 100000) hx hb hown (hts (.constant RX10 252 (100000)) (List.mem_of_getElem? (i := 1) rfl)) dX10_spend_23 ?_
      refine vp_callSi (va_Run.run (va_runS (As := [.int pn, .int 0, .int 100000]) (rest := []) ⟨hx, hb, hml, hown, hts⟩ (c_X10_isWithin l pn 0 100000 ) (va_cwS 3 hts gX10_spend_X10_isWithin rfl rfl rfl (by decide +kernel) ⟨Nat.le_of_ble_eq_true rfl, Nat.le_of_ble_eq_true rfl⟩) (p0_preS hN) rfl rfl hl.1 rfl (lv_room (Nat.le_of_ble_eq_true rfl)) dX10_spend_25 ⟨Nat.le_of_ble_eq_true rfl, Nat.le_of_ble_eq_true rfl⟩)) (fun r5 hr5 => ?_)
      have hr5 : r5 = if 0 ≤ pn ∧ pn ≤ 100000 then 1 else 0 := hr5
      refine lv_if_ne (tgt := 35) hx hb dX10_spend_28 (by decide) (fun c6 => ?_) (fun c6 => ?_)
      · skip
        have c6 := (fa_bool_prop hr5).2.mp c6
        refine lv_aload hx hb dX10_spend_35 (lv_at hl 0 rfl) ?_
        refine va_get (D := (dC, dI)) (ci := 8) (v := .int (cs_I zc 33 jt)) (C := RX8) (T := TX8) (N := 12) hx hb hts hiX8 hown hK hP 2 rfl rfl 11 (by decide) (hts (.fieldLink RX10 238 "TributePitches$Take" "settled" "Z") (List.mem_of_getElem? (i := 3) rfl)) (fun _ h9 => h9) rfl dX10_spend_37 ?_
        refine lv_if_eq (tgt := 47) hx hb dX10_spend_40 (by decide) (fun c7 => ?_) (fun c7 => ?_)
        · skip
          refine lv_iload_n hx hb dX10_spend_47 rfl (lv_at hl 3 rfl) ?_
          refine lv_if_ne (tgt := 69) hx hb dX10_spend_48 (by decide) (fun c8 => ?_) (fun c8 => ?_)
          · skip
            refine lv_aload hx hb dX10_spend_69 (lv_at hl 0 rfl) ?_
            refine lv_dup hx hb dX10_spend_71 rfl ?_
            refine va_get (D := (dC, dI)) (ci := 8) (v := .long (cs_L zc 5 jt)) (C := RX8) (T := TX8) (N := 12) hx hb hts hiX8 hown hK hP 2 rfl rfl 8 (by decide) (hts (.fieldLink RX10 256 "TributePitches$Take" "ahead" "J") (List.mem_of_getElem? (i := 5) rfl)) (fun _ h9 => h9) rfl dX10_spend_72 ?_
            refine lv_iload_n hx hb dX10_spend_75 rfl (lv_at hl 4 rfl) ?_
            refine lv_i2l (v := pn.toInt64) hx hb dX10_spend_76 rfl ?_
            refine lv_ladd hx hb dX10_spend_77 ?_
            refine va_put (D := (dC, dI)) (ci := 8) (v := .long ((cs_L zc 5 jt) + pn.toInt64)) (ty := .long) (C := RX8) (T := TX8) (N := 12) hx hb hts hiX8 tyX8 tyX8_ok nmX8 hown hK hP hD hS 2 rfl rfl 8 (by decide) (hts (.fieldLink RX10 256 "TributePitches$Take" "ahead" "J") (List.mem_of_getElem? (i := 5) rfl)) (fun _ h9 => h9) rfl (by decide +kernel) rfl rfl (Nat.le_of_ble_eq_true rfl) dX10_spend_78 (fun H locs hP hD hS => ?_)
            have hP : va_P (dC, dI) vwCl [cTP zc, cR8 cA zc, (cs_X zc 3 jt, .inr (8, [.int (nI jt), .int (cs_I zc 31 jt), .ref (cs_X zc 2 (cs_N zc 2 jt)), .ref (cs_X zc 1 (cs_N zc 3 jt)), .long (cs_L zc 1 jt), .long (cs_L zc 2 jt), .long (cs_L zc 3 jt), .long (cs_L zc 4 jt), .long ((cs_L zc 5 jt) + pn.toInt64), .long (cs_L zc 6 jt), .int (cs_I zc 32 jt), .int (cs_I zc 33 jt)]))] H := hP
            have hD : va_D _ [cTP zc, cR8 cA zc, (cs_X zc 3 jt, .inr (8, [.int (nI jt), .int (cs_I zc 31 jt), .ref (cs_X zc 2 (cs_N zc 2 jt)), .ref (cs_X zc 1 (cs_N zc 3 jt)), .long (cs_L zc 1 jt), .long (cs_L zc 2 jt), .long (cs_L zc 3 jt), .long (cs_L zc 4 jt), .long ((cs_L zc 5 jt) + pn.toInt64), .long (cs_L zc 6 jt), .int (cs_I zc 32 jt), .int (cs_I zc 33 jt)]))] := hD
            refine lv_aload hx hb dX10_spend_81 (lv_at hl 0 rfl) ?_
            refine va_get (D := (dC, dI)) (ci := 8) (v := .long ((cs_L zc 5 jt) + pn.toInt64)) (C := RX8) (T := TX8) (N := 12) hx hb hts hiX8 hown hK hP 2 rfl rfl 8 (by decide) (hts (.fieldLink RX10 256 "TributePitches$Take" "ahead" "J") (List.mem_of_getElem? (i := 5) rfl)) (fun _ h9 => h9) rfl dX10_spend_83 ?_
            subst hQ
            have hP9 : va_P (dC, dI) vwCl [cTP zc, cR8 cA zc, (cs_X zc 3 jt, .inr (8, [.int (nI jt), .int (cs_I zc 31 jt), .ref (cs_X zc 2 (cs_N zc 2 jt)), .ref (cs_X zc 1 (cs_N zc 3 jt)), .long (cs_L zc 1 jt), .long (cs_L zc 2 jt), .long (cs_L zc 3 jt), .long (cs_L zc 4 jt), .long ((cs_L zc 5 jt) + pn.toInt64), .long (cs_L zc 6 jt), .int (cs_I zc 32 jt), .int (cs_I zc 33 jt)]))] H := hP.sub [0, 1, 2] rfl
            have hD9 : va_D (va_A [cTP zc, cR8 cA zc, cTa zc jt] s.heap.size) [cTP zc, cR8 cA zc, (cs_X zc 3 jt, .inr (8, [.int (nI jt), .int (cs_I zc 31 jt), .ref (cs_X zc 2 (cs_N zc 2 jt)), .ref (cs_X zc 1 (cs_N zc 3 jt)), .long (cs_L zc 1 jt), .long (cs_L zc 2 jt), .long (cs_L zc 3 jt), .long (cs_L zc 4 jt), .long ((cs_L zc 5 jt) + pn.toInt64), .long (cs_L zc 6 jt), .int (cs_I zc 32 jt), .int (cs_I zc 33 jt)]))] := hD.sub [0, 1, 2] (by decide) rfl
            have hlf := lf_spend_2 cA zc wh pn jt hjt c4 c6 c7 c8 hI
            exact W.lret (v := (cs_L zc 5 jt) + pn.toInt64) hx hb hr (fun t ht hW => have hJ := kjoin hPk hDk hks rfl (hS.F ht) (by rw [ht]; exact hP9) hD9 hlf.2.1 hlf.2.2; ⟨⟨(cs_L zc 5 jt) + pn.toInt64, (cs_i zc, cs_n zc, cs_I zc, va_up (cs_L zc) 5 (va_up (cs_L zc 5) jt ((cs_L zc 5 jt) + pn.toInt64)), cs_N zc, cs_S zc, cs_X zc), rfl, ⟨⟨hlf.1, rfl⟩, (Or.inr (Or.inr (Or.inl ⟨jt, rfl, hjt, c4, c6, c7, c8, rfl, rfl⟩)))⟩, hJ.1, va_K.moved hW.alike hKk, hJ.2.1⟩, hJ.2.2⟩) (fun q h => kAll_A hks _ (hS.2.2 q h)) dX10_spend_86
          · skip
            refine lv_aload hx hb dX10_spend_51 (lv_at hl 0 rfl) ?_
            refine lv_dup hx hb dX10_spend_53 rfl ?_
            refine va_get (D := (dC, dI)) (ci := 8) (v := .long (cs_L zc 4 jt)) (C := RX8) (T := TX8) (N := 12) hx hb hts hiX8 hown hK hP 2 rfl rfl 7 (by decide) (hts (.fieldLink RX10 253 "TributePitches$Take" "costs" "J") (List.mem_of_getElem? (i := 4) rfl)) (fun _ h9 => h9) rfl dX10_spend_54 ?_
            refine lv_iload_n hx hb dX10_spend_57 rfl (lv_at hl 4 rfl) ?_
            refine lv_i2l (v := pn.toInt64) hx hb dX10_spend_58 rfl ?_
            refine lv_ladd hx hb dX10_spend_59 ?_
            refine va_put (D := (dC, dI)) (ci := 8) (v := .long ((cs_L zc 4 jt) + pn.toInt64)) (ty := .long) (C := RX8) (T := TX8) (N := 12) hx hb hts hiX8 tyX8 tyX8_ok nmX8 hown hK hP hD hS 2 rfl rfl 7 (by decide) (hts (.fieldLink RX10 253 "TributePitches$Take" "costs" "J") (List.mem_of_getElem? (i := 4) rfl)) (fun _ h9 => h9) rfl (by decide +kernel) rfl rfl (Nat.le_of_ble_eq_true rfl) dX10_spend_60 (fun H locs hP hD hS => ?_)
            have hP : va_P (dC, dI) vwCl [cTP zc, cR8 cA zc, (cs_X zc 3 jt, .inr (8, [.int (nI jt), .int (cs_I zc 31 jt), .ref (cs_X zc 2 (cs_N zc 2 jt)), .ref (cs_X zc 1 (cs_N zc 3 jt)), .long (cs_L zc 1 jt), .long (cs_L zc 2 jt), .long (cs_L zc 3 jt), .long ((cs_L zc 4 jt) + pn.toInt64), .long (cs_L zc 5 jt), .long (cs_L zc 6 jt), .int (cs_I zc 32 jt), .int (cs_I zc 33 jt)]))] H := hP
            have hD : va_D _ [cTP zc, cR8 cA zc, (cs_X zc 3 jt, .inr (8, [.int (nI jt), .int (cs_I zc 31 jt), .ref (cs_X zc 2 (cs_N zc 2 jt)), .ref (cs_X zc 1 (cs_N zc 3 jt)), .long (cs_L zc 1 jt), .long (cs_L zc 2 jt), .long (cs_L zc 3 jt), .long ((cs_L zc 4 jt) + pn.toInt64), .long (cs_L zc 5 jt), .long (cs_L zc 6 jt), .int (cs_I zc 32 jt), .int (cs_I zc 33 jt)]))] := hD
            refine lv_aload hx hb dX10_spend_63 (lv_at hl 0 rfl) ?_
            refine va_get (D := (dC, dI)) (ci := 8) (v := .long ((cs_L zc 4 jt) + pn.toInt64)) (C := RX8) (T := TX8) (N := 12) hx hb hts hiX8 hown hK hP 2 rfl rfl 7 (by decide) (hts (.fieldLink RX10 253 "TributePitches$Take" "costs" "J") (List.mem_of_getElem? (i := 4) rfl)) (fun _ h9 => h9) rfl dX10_spend_65 ?_
            subst hQ
            have hP9 : va_P (dC, dI) vwCl [cTP zc, cR8 cA zc, (cs_X zc 3 jt, .inr (8, [.int (nI jt), .int (cs_I zc 31 jt), .ref (cs_X zc 2 (cs_N zc 2 jt)), .ref (cs_X zc 1 (cs_N zc 3 jt)), .long (cs_L zc 1 jt), .long (cs_L zc 2 jt), .long (cs_L zc 3 jt), .long ((cs_L zc 4 jt) + pn.toInt64), .long (cs_L zc 5 jt), .long (cs_L zc 6 jt), .int (cs_I zc 32 jt), .int (cs_I zc 33 jt)]))] H := hP.sub [0, 1, 2] rfl
            have hD9 : va_D (va_A [cTP zc, cR8 cA zc, cTa zc jt] s.heap.size) [cTP zc, cR8 cA zc, (cs_X zc 3 jt, .inr (8, [.int (nI jt), .int (cs_I zc 31 jt), .ref (cs_X zc 2 (cs_N zc 2 jt)), .ref (cs_X zc 1 (cs_N zc 3 jt)), .long (cs_L zc 1 jt), .long (cs_L zc 2 jt), .long (cs_L zc 3 jt), .long ((cs_L zc 4 jt) + pn.toInt64), .long (cs_L zc 5 jt), .long (cs_L zc 6 jt), .int (cs_I zc 32 jt), .int (cs_I zc 33 jt)]))] := hD.sub [0, 1, 2] (by decide) rfl
            have hlf := lf_spend_3 cA zc wh pn jt hjt c4 c6 c7 c8 hI
            exact W.lret (v := (cs_L zc 4 jt) + pn.toInt64) hx hb hr (fun t ht hW => have hJ := kjoin hPk hDk hks rfl (hS.F ht) (by rw [ht]; exact hP9) hD9 hlf.2.1 hlf.2.2; ⟨⟨(cs_L zc 4 jt) + pn.toInt64, (cs_i zc, cs_n zc, cs_I zc, va_up (cs_L zc) 4 (va_up (cs_L zc 4) jt ((cs_L zc 4 jt) + pn.toInt64)), cs_N zc, cs_S zc, cs_X zc), rfl, ⟨⟨hlf.1, rfl⟩, (Or.inr (Or.inr (Or.inr (Or.inl ⟨jt, rfl, hjt, c4, c6, c7, c8, rfl, rfl⟩))))⟩, hJ.1, va_K.moved hW.alike hKk, hJ.2.1⟩, hJ.2.2⟩) (fun q h => kAll_A hks _ (hS.2.2 q h)) dX10_spend_68
        · skip
          refine lv_ldc2 (v := (-9223372036854775808)) hx hb hown (hts (.constantLong RX10 137 (-9223372036854775808)) (List.mem_of_getElem? (i := 2) rfl)) dX10_spend_43 ?_
          subst hQ
          exact W.lret (v := (-9223372036854775808)) hx hb hr (fun t ht hW => ⟨⟨(-9223372036854775808), zc, rfl, ⟨⟨hI, rfl⟩, (Or.inr (Or.inr (Or.inr (Or.inr (Or.inl ⟨jt, rfl, hjt, c4, c6, c7, rfl, rfl⟩)))))⟩, (by rw [ht]; exact hPk), va_K.moved hW.alike hKk, kDA_self hDk⟩, (kw_same hPk ht).2⟩) (fun q h => absurd h List.not_mem_nil) dX10_spend_46
      · skip
        have c6 := (fa_bool_prop hr5).1.mp c6
        refine lv_ldc2 (v := (-9223372036854775808)) hx hb hown (hts (.constantLong RX10 137 (-9223372036854775808)) (List.mem_of_getElem? (i := 2) rfl)) dX10_spend_31 ?_
        subst hQ
        exact W.lret (v := (-9223372036854775808)) hx hb hr (fun t ht hW => ⟨⟨(-9223372036854775808), zc, rfl, ⟨⟨hI, rfl⟩, (Or.inr (Or.inr (Or.inr (Or.inr (Or.inr ⟨jt, rfl, hjt, c4, c6, rfl, rfl⟩)))))⟩, (by rw [ht]; exact hPk), va_K.moved hW.alike hKk, kDA_self hDk⟩, (kw_same hPk ht).2⟩) (fun q h => absurd h List.not_mem_nil) dX10_spend_34
def pC_debt (zc : CS) (g : Int32) (r : Int64) (u : CS) : Prop :=
  ((∀ j, j < cs_n zc 1 → g ≠ nI j) ∧ r = ((-9223372036854775808)) ∧ u = zc) ∨
  (∃ jg : Nat, g = nI jg ∧ (jg < cs_n zc 1) ∧ (cs_N zc 1 jg = 1) ∧ r = (cs_L zc 0 jg) ∧ u = zc) ∨
  (∃ jg : Nat, g = nI jg ∧ (jg < cs_n zc 1) ∧ (cs_N zc 1 jg = 2) ∧ r = (cs_L zc 0 jg) ∧ u = zc) ∨
  (∃ jg : Nat, g = nI jg ∧ (jg < cs_n zc 1) ∧ (cs_N zc 1 jg = 4) ∧ r = (cs_L zc 0 jg) ∧ u = zc)
set_option maxHeartbeats 4000000 in
set_option maxRecDepth 100000 in
theorem K_debt (l : Launch) (dC : Nat → ClassId) (dI : Nat → Nat → Nat) (cA : Nat → ClassId) (sz : Nat) (zc : CS) (g : Int32) (hI : invC zc) : Met l yX10_debt wsX10_debt ({ frames := 2, cells := 0, slots := 0, locals := 60 }) (kw (dC, dI) (ctys cA) (cF cA zc) sz [.ref (cs_X zc 0 0), .int g]) (kQl (dC, dI) (ctys cA) (cF cA zc) sz (cF cA) (fun r u => (invC u ∧ cs_X u 0 0 = cs_X zc 0 0) ∧ pC_debt zc g r u)) 0 0 (kA (cF cA zc) sz) := by
  refine kw_met (cc := cX10_debt) (maxL := 3) (ret := (some .long)) (by decide) rfl (Nat.le_of_ble_eq_true rfl) ?_
  intro p e s m below meth c0 hx hb hr hml hown hlocks hnm hts hPk hKk hDk hN hsz ls hl
  subst hsz
  have hK : va_K (dC, dI) vwCl [(cA 0, .int), (cA 1, .object RX6), (cA 2, .object RX2), (cA 3, .object RX8), (cA 4, .object RX5), (cA 5, .object RX7)] s := hKk
  obtain ⟨⟨hn0, hn1, hn2, hn3, hn4, hn5⟩, hpi, hgk, htk, hpk, hsh⟩ := id hI
  have hl : lv_has ls 3 [(0, .ref (cs_X zc 0 0)), (1, .int g)] := hl
  have hiX1 : ∀ w ∈ wsX10, w ∈ wsX10_debt := fun _ h => List.mem_cons_of_mem _ (List.mem_append_left _ (List.mem_append_left _ (List.mem_append_left _ (List.mem_append_right _ (h)))))
  have hiX2 : ∀ w ∈ wsX20, w ∈ wsX10_debt := fun _ h => List.mem_cons_of_mem _ (List.mem_append_left _ (List.mem_append_left _ (List.mem_append_right _ (h))))
  have hiX4 : ∀ w ∈ wsX40, w ∈ wsX10_debt := fun _ h => List.mem_cons_of_mem _ (List.mem_append_left _ (List.mem_append_right _ (h)))
  generalize hQ : MQ _ _ _ _ _ _ _ = Q
  rcases ixd g (cs_n zc 1) with hnojg | ⟨jg, hjg, rfl⟩
  · skip
    have hks : kAll (cF cA zc) [(0, 0), (0, 7)] [cTP zc, cR7 cA zc] := ⟨(kF_tp (cA := cA) (z := zc)), (kF_r7 (cA := cA) (z := zc)), trivial⟩
    have hP : va_P (dC, dI) vwCl [cTP zc, cR7 cA zc] s.heap := kAll_P hPk hks
    have hD : va_D (va_A [cTP zc, cR7 cA zc] s.heap.size) [cTP zc, cR7 cA zc] := (kAll_D hDk hks (by simp)).self
    have hA : ∀ q : Nat, s.heap.size ≤ q → va_A [cTP zc, cR7 cA zc] s.heap.size q := fun q h => Or.inr h
    have hS : va_S (va_A [cTP zc, cR7 cA zc] s.heap.size) s.heap s.heap [] := va_S.rf
    refine lv_aload_n hx hb dX10_debt_0 rfl (lv_at hl 0 rfl) ?_
    refine lv_iload_n hx hb dX10_debt_1 rfl (lv_at hl 1 rfl) ?_
    have hPc := hP.sub (ws' := [cTP zc]) [0] rfl
    have hDc := hD.sub (ws' := [cTP zc]) [0] (by decide) rfl
    have hKc := hK.sub (tys' := []) [] rfl
    refine va_csq (va_Run.run (va_runV (As := [.int g]) (rest := []) ⟨hx, hb, hml, hown, hts⟩ (s_gangAt_no l dC dI  _ (cs_X zc 0 0) (.ref (cs_X zc 0 1)) (.ref (cs_X zc 0 6)) (.ref (cs_X zc 0 7)) (.ref (cs_X zc 0 8)) (.ref (cs_X zc 0 9)) (.ref (cs_X zc 0 10)) (.ref (cs_X zc 0 11)) (.int (nI (cs_n zc 0))) (.int (nI (cs_n zc 2))) (.int (nI (cs_n zc 3))) (va_rf (opN (cs_n zc 4) (fun _ => cs_X zc 5 0))) (.int (cs_i zc 2)) g (cs_n zc 1) (by omega) hnojg) (cwV 1 hts gX10_debt_X10_gangAt rfl rfl rfl (by decide +kernel) ⟨Nat.le_of_ble_eq_true rfl, Nat.le_of_ble_eq_true rfl⟩) (pw_preV (va_recv hKc hPc (ci := 10) (q0 := 0) rfl rfl) hPc hKc hDc hN) rfl rfl hl.1 rfl (lv_room (Nat.le_of_ble_eq_true rfl)) dX10_debt_2 ⟨Nat.le_of_ble_eq_true rfl, Nat.le_of_ble_eq_true rfl⟩)) (fun r1 hr1 => ?_)
    have hr1 : r1 = none := hr1
    subst hr1
    refine W.eq (g2 := F0 m 5 ls [.null]) rfl ?_
    refine lv_astore_nN (lv' := [(2, .null), (0, .ref (cs_X zc 0 0)), (1, .int g)]) hx hb dX10_debt_5 rfl hl (by decide) rfl (fun ls hl => ?_)
    refine lv_aload_nN hx hb dX10_debt_6 rfl (lv_at hl 0 rfl) ?_
    refine lv_ifnonnullN hx hb dX10_debt_7 ?_
    refine lv_ldc2 (v := (-9223372036854775808)) hx hb hown (hts (.constantLong RX10 137 (-9223372036854775808)) (List.mem_of_getElem? (i := 1) rfl)) dX10_debt_10 ?_
    refine lv_goto (tgt := 20) hx hb dX10_debt_13 (by decide) ?_
    subst hQ
    exact W.lret (v := (-9223372036854775808)) hx hb hr (fun t ht hW => ⟨⟨(-9223372036854775808), zc, rfl, ⟨⟨hI, rfl⟩, (Or.inl ⟨hnojg, rfl, rfl⟩)⟩, (by rw [ht]; exact hPk), va_K.moved hW.alike hKk, kDA_self hDk⟩, (kw_same hPk ht).2⟩) (fun q h => absurd h List.not_mem_nil) dX10_debt_20
  · skip
    rcases (hgk jg hjg) with hk | hk | hk
    · skip
      have hks : kAll (cF cA zc) [(0, 0), (0, 7), (2, jg)] [cTP zc, cR7 cA zc, cGaK zc jg 1] := ⟨(kF_tp (cA := cA) (z := zc)), (kF_r7 (cA := cA) (z := zc)), (kF_gaK (z := zc) (j := jg) hjg hk), trivial⟩
      have hP : va_P (dC, dI) vwCl [cTP zc, cR7 cA zc, cGaK zc jg 1] s.heap := kAll_P hPk hks
      have hD : va_D (va_A [cTP zc, cR7 cA zc, cGaK zc jg 1] s.heap.size) [cTP zc, cR7 cA zc, cGaK zc jg 1] := (kAll_D hDk hks (by simp)).self
      have hA : ∀ q : Nat, s.heap.size ≤ q → va_A [cTP zc, cR7 cA zc, cGaK zc jg 1] s.heap.size q := fun q h => Or.inr h
      have hS : va_S (va_A [cTP zc, cR7 cA zc, cGaK zc jg 1] s.heap.size) s.heap s.heap [] := va_S.rf
      refine lv_aload_n hx hb dX10_debt_0 rfl (lv_at hl 0 rfl) ?_
      refine lv_iload_n hx hb dX10_debt_1 rfl (lv_at hl 1 rfl) ?_
      have hPc := hP.sub (ws' := [cTP zc, cR7 cA zc]) [0, 1] rfl
      have hDc := hD.sub (ws' := [cTP zc, cR7 cA zc]) [0, 1] (by decide) rfl
      have hKc := hK.sub (tys' := [(cA 2, .object RX2)]) [2] rfl
      refine va_csq (va_Run.run (va_runV (As := [.int (nI jg)]) (rest := []) ⟨hx, hb, hml, hown, hts⟩ (s_gangAt_yes l dC dI (cA 2) _ (cs_X zc 0 0) (.ref (cs_X zc 0 1)) (.ref (cs_X zc 0 6)) (.ref (cs_X zc 0 8)) (.ref (cs_X zc 0 9)) (.ref (cs_X zc 0 10)) (.ref (cs_X zc 0 11)) (.int (nI (cs_n zc 0))) (.int (nI (cs_n zc 2))) (.int (nI (cs_n zc 3))) (va_rf (opN (cs_n zc 4) (fun _ => cs_X zc 5 0))) (.int (cs_i zc 2)) (cs_X zc 0 7) jg (cs_n zc 1) (cs_X zc 2 jg) (rfN (cs_n zc 1) (cs_X zc 2)) hjg (by omega) (rfN_at hjg)) (cwV 1 hts gX10_debt_X10_gangAt rfl rfl rfl (by decide +kernel) ⟨Nat.le_of_ble_eq_true rfl, Nat.le_of_ble_eq_true rfl⟩) (pw_preV (va_recv hKc hPc (ci := 10) (q0 := 0) rfl rfl) hPc hKc hDc hN) rfl rfl hl.1 rfl (lv_room (Nat.le_of_ble_eq_true rfl)) dX10_debt_2 ⟨Nat.le_of_ble_eq_true rfl, Nat.le_of_ble_eq_true rfl⟩)) (fun r2 hr2 => ?_)
      have hr2 : r2 = some (cs_X zc 2 jg) := hr2
      subst hr2
      refine W.eq (g2 := F0 m 5 ls [.ref (cs_X zc 2 jg)]) rfl ?_
      refine lv_astore_n (lv' := [(2, .ref (cs_X zc 2 jg)), (0, .ref (cs_X zc 0 0)), (1, .int (nI jg))]) hx hb dX10_debt_5 rfl hl (by decide) rfl (fun ls hl => ?_)
      refine lv_aload_n hx hb dX10_debt_6 rfl (lv_at hl 0 rfl) ?_
      refine lv_ifnonnull (tgt := 16) hx hb dX10_debt_7 (by decide) ?_
      refine lv_aload_n hx hb dX10_debt_16 rfl (lv_at hl 0 rfl) ?_
      refine va_get (D := (dC, dI)) (ci := 1) (v := .long (cs_L zc 0 jg)) (C := RX1) (T := TX1) (N := 4) hx hb hts hiX1 hown hK hP 2 rfl rfl 3 (by decide) (hts (.fieldLink RX10 271 "TributePitches$Gang" "owed" "J") (List.mem_of_getElem? (i := 2) rfl)) (fun _ h9 => h9) rfl dX10_debt_17 ?_
      subst hQ
      exact W.lret (v := cs_L zc 0 jg) hx hb hr (fun t ht hW => ⟨⟨cs_L zc 0 jg, zc, rfl, ⟨⟨hI, rfl⟩, (Or.inr (Or.inl ⟨jg, rfl, hjg, hk, rfl, rfl⟩))⟩, (by rw [ht]; exact hPk), va_K.moved hW.alike hKk, kDA_self hDk⟩, (kw_same hPk ht).2⟩) (fun q h => absurd h List.not_mem_nil) dX10_debt_20
    · skip
      have hks : kAll (cF cA zc) [(0, 0), (0, 7), (2, jg)] [cTP zc, cR7 cA zc, cGaK zc jg 2] := ⟨(kF_tp (cA := cA) (z := zc)), (kF_r7 (cA := cA) (z := zc)), (kF_gaK (z := zc) (j := jg) hjg hk), trivial⟩
      have hP : va_P (dC, dI) vwCl [cTP zc, cR7 cA zc, cGaK zc jg 2] s.heap := kAll_P hPk hks
      have hD : va_D (va_A [cTP zc, cR7 cA zc, cGaK zc jg 2] s.heap.size) [cTP zc, cR7 cA zc, cGaK zc jg 2] := (kAll_D hDk hks (by simp)).self
      have hA : ∀ q : Nat, s.heap.size ≤ q → va_A [cTP zc, cR7 cA zc, cGaK zc jg 2] s.heap.size q := fun q h => Or.inr h
      have hS : va_S (va_A [cTP zc, cR7 cA zc, cGaK zc jg 2] s.heap.size) s.heap s.heap [] := va_S.rf
      refine lv_aload_n hx hb dX10_debt_0 rfl (lv_at hl 0 rfl) ?_
      refine lv_iload_n hx hb dX10_debt_1 rfl (lv_at hl 1 rfl) ?_
      have hPc := hP.sub (ws' := [cTP zc, cR7 cA zc]) [0, 1] rfl
      have hDc := hD.sub (ws' := [cTP zc, cR7 cA zc]) [0, 1] (by decide) rfl
      have hKc := hK.sub (tys' := [(cA 2, .object RX2)]) [2] rfl
      refine va_csq (va_Run.run (va_runV (As := [.int (nI jg)]) (rest := []) ⟨hx, hb, hml, hown, hts⟩ (s_gangAt_yes l dC dI (cA 2) _ (cs_X zc 0 0) (.ref (cs_X zc 0 1)) (.ref (cs_X zc 0 6)) (.ref (cs_X zc 0 8)) (.ref (cs_X zc 0 9)) (.ref (cs_X zc 0 10)) (.ref (cs_X zc 0 11)) (.int (nI (cs_n zc 0))) (.int (nI (cs_n zc 2))) (.int (nI (cs_n zc 3))) (va_rf (opN (cs_n zc 4) (fun _ => cs_X zc 5 0))) (.int (cs_i zc 2)) (cs_X zc 0 7) jg (cs_n zc 1) (cs_X zc 2 jg) (rfN (cs_n zc 1) (cs_X zc 2)) hjg (by omega) (rfN_at hjg)) (cwV 1 hts gX10_debt_X10_gangAt rfl rfl rfl (by decide +kernel) ⟨Nat.le_of_ble_eq_true rfl, Nat.le_of_ble_eq_true rfl⟩) (pw_preV (va_recv hKc hPc (ci := 10) (q0 := 0) rfl rfl) hPc hKc hDc hN) rfl rfl hl.1 rfl (lv_room (Nat.le_of_ble_eq_true rfl)) dX10_debt_2 ⟨Nat.le_of_ble_eq_true rfl, Nat.le_of_ble_eq_true rfl⟩)) (fun r3 hr3 => ?_)
      have hr3 : r3 = some (cs_X zc 2 jg) := hr3
      subst hr3
      refine W.eq (g2 := F0 m 5 ls [.ref (cs_X zc 2 jg)]) rfl ?_
      refine lv_astore_n (lv' := [(2, .ref (cs_X zc 2 jg)), (0, .ref (cs_X zc 0 0)), (1, .int (nI jg))]) hx hb dX10_debt_5 rfl hl (by decide) rfl (fun ls hl => ?_)
      refine lv_aload_n hx hb dX10_debt_6 rfl (lv_at hl 0 rfl) ?_
      refine lv_ifnonnull (tgt := 16) hx hb dX10_debt_7 (by decide) ?_
      refine lv_aload_n hx hb dX10_debt_16 rfl (lv_at hl 0 rfl) ?_
      refine va_get (D := (dC, dI)) (ci := 2) (v := .long (cs_L zc 0 jg)) (C := RX2) (T := TX2) (N := 4) hx hb hts hiX2 hown hK hP 2 rfl rfl 3 (by decide) (hts (.fieldLink RX10 271 "TributePitches$Gang" "owed" "J") (List.mem_of_getElem? (i := 2) rfl)) (fun _ h9 => h9) rfl dX10_debt_17 ?_
      subst hQ
      exact W.lret (v := cs_L zc 0 jg) hx hb hr (fun t ht hW => ⟨⟨cs_L zc 0 jg, zc, rfl, ⟨⟨hI, rfl⟩, (Or.inr (Or.inr (Or.inl ⟨jg, rfl, hjg, hk, rfl, rfl⟩)))⟩, (by rw [ht]; exact hPk), va_K.moved hW.alike hKk, kDA_self hDk⟩, (kw_same hPk ht).2⟩) (fun q h => absurd h List.not_mem_nil) dX10_debt_20
    · skip
      have hks : kAll (cF cA zc) [(0, 0), (0, 7), (2, jg)] [cTP zc, cR7 cA zc, cGaK zc jg 4] := ⟨(kF_tp (cA := cA) (z := zc)), (kF_r7 (cA := cA) (z := zc)), (kF_gaK (z := zc) (j := jg) hjg hk), trivial⟩
      have hP : va_P (dC, dI) vwCl [cTP zc, cR7 cA zc, cGaK zc jg 4] s.heap := kAll_P hPk hks
      have hD : va_D (va_A [cTP zc, cR7 cA zc, cGaK zc jg 4] s.heap.size) [cTP zc, cR7 cA zc, cGaK zc jg 4] := (kAll_D hDk hks (by simp)).self
      have hA : ∀ q : Nat, s.heap.size ≤ q → va_A [cTP zc, cR7 cA zc, cGaK zc jg 4] s.heap.size q := fun q h => Or.inr h
      have hS : va_S (va_A [cTP zc, cR7 cA zc, cGaK zc jg 4] s.heap.size) s.heap s.heap [] := va_S.rf
      refine lv_aload_n hx hb dX10_debt_0 rfl (lv_at hl 0 rfl) ?_
      refine lv_iload_n hx hb dX10_debt_1 rfl (lv_at hl 1 rfl) ?_
      have hPc := hP.sub (ws' := [cTP zc, cR7 cA zc]) [0, 1] rfl
      have hDc := hD.sub (ws' := [cTP zc, cR7 cA zc]) [0, 1] (by decide) rfl
      have hKc := hK.sub (tys' := [(cA 2, .object RX2)]) [2] rfl
      refine va_csq (va_Run.run (va_runV (As := [.int (nI jg)]) (rest := []) ⟨hx, hb, hml, hown, hts⟩ (s_gangAt_yes l dC dI (cA 2) _ (cs_X zc 0 0) (.ref (cs_X zc 0 1)) (.ref (cs_X zc 0 6)) (.ref (cs_X zc 0 8)) (.ref (cs_X zc 0 9)) (.ref (cs_X zc 0 10)) (.ref (cs_X zc 0 11)) (.int (nI (cs_n zc 0))) (.int (nI (cs_n zc 2))) (.int (nI (cs_n zc 3))) (va_rf (opN (cs_n zc 4) (fun _ => cs_X zc 5 0))) (.int (cs_i zc 2)) (cs_X zc 0 7) jg (cs_n zc 1) (cs_X zc 2 jg) (rfN (cs_n zc 1) (cs_X zc 2)) hjg (by omega) (rfN_at hjg)) (cwV 1 hts gX10_debt_X10_gangAt rfl rfl rfl (by decide +kernel) ⟨Nat.le_of_ble_eq_true rfl, Nat.le_of_ble_eq_true rfl⟩) (pw_preV (va_recv hKc hPc (ci := 10) (q0 := 0) rfl rfl) hPc hKc hDc hN) rfl rfl hl.1 rfl (lv_room (Nat.le_of_ble_eq_true rfl)) dX10_debt_2 ⟨Nat.le_of_ble_eq_true rfl, Nat.le_of_ble_eq_true rfl⟩)) (fun r4 hr4 => ?_)
      have hr4 : r4 = some (cs_X zc 2 jg) := hr4
      subst hr4
      refine W.eq (g2 := F0 m 5 ls [.ref (cs_X zc 2 jg)]) rfl ?_
      refine lv_astore_n (lv' := [(2, .ref (cs_X zc 2 jg)), (0, .ref (cs_X zc 0 0)), (1, .int (nI jg))]) hx hb dX10_debt_5 rfl hl (by decide) rfl (fun ls hl => ?_)
      refine lv_aload_n hx hb dX10_debt_6 rfl (lv_at hl 0 rfl) ?_
      refine lv_ifnonnull (tgt := 16) hx hb dX10_debt_7 (by decide) ?_
      refine lv_aload_n hx hb dX10_debt_16 rfl (lv_at hl 0 rfl) ?_
      refine va_get (D := (dC, dI)) (ci := 4) (v := .long (cs_L zc 0 jg)) (C := RX4) (T := TX4) (N := 4) hx hb hts hiX4 hown hK hP 2 rfl rfl 3 (by decide) (hts (.fieldLink RX10 271 "TributePitches$Gang" "owed" "J") (List.mem_of_getElem? (i := 2) rfl)) (fun _ h9 => h9) rfl dX10_debt_17 ?_
      subst hQ
      exact W.lret (v := cs_L zc 0 jg) hx hb hr (fun t ht hW => ⟨⟨cs_L zc 0 jg, zc, rfl, ⟨⟨hI, rfl⟩, (Or.inr (Or.inr (Or.inr ⟨jg, rfl, hjg, hk, rfl, rfl⟩)))⟩, (by rw [ht]; exact hPk), va_K.moved hW.alike hKk, kDA_self hDk⟩, (kw_same hPk ht).2⟩) (fun q h => absurd h List.not_mem_nil) dX10_debt_20
def pC_tell (zc : CS) (g : Int32) (r : Int32) (u : CS) : Prop :=
  ((∀ j, j < cs_n zc 1 → g ≠ nI j) ∧ r = ((-1)) ∧ u = zc) ∨
  (∃ jg : Nat, g = nI jg ∧ (jg < cs_n zc 1) ∧ (cs_N zc 1 jg = 1) ∧ r = (10 + (cs_I zc 21 jg)) ∧ u = (va_up (cs_i zc) 1 ((31 * ((31 * (cs_i zc 1)) + 2)) + 1), cs_n zc, cs_I zc, cs_L zc, cs_N zc, cs_S zc, cs_X zc)) ∨
  (∃ jg : Nat, g = nI jg ∧ (jg < cs_n zc 1) ∧ (cs_N zc 1 jg = 2) ∧ r = ((cs_I zc 21 jg)) ∧ u = (va_up (cs_i zc) 1 ((31 * (cs_i zc 1)) + 1), cs_n zc, cs_I zc, cs_L zc, cs_N zc, cs_S zc, cs_X zc)) ∨
  (∃ jg : Nat, g = nI jg ∧ (jg < cs_n zc 1) ∧ (cs_N zc 1 jg = 4) ∧ r = (3 * (cs_I zc 21 jg)) ∧ u = (va_up (cs_i zc) 1 ((31 * ((31 * (cs_i zc 1)) + 3)) + 1), cs_n zc, cs_I zc, cs_L zc, cs_N zc, cs_S zc, cs_X zc))
set_option maxHeartbeats 4000000 in
theorem lf_tell_1 (cA : Nat → ClassId) (zc : CS) (jg : Nat) (hjg : jg < cs_n zc 1) (hk : cs_N zc 1 jg = 1) (hI : invC zc) : invC (va_up (cs_i zc) 1 ((31 * ((31 * (cs_i zc 1)) + 2)) + 1), cs_n zc, cs_I zc, cs_L zc, cs_N zc, cs_S zc, cs_X zc) ∧ kAll (cF cA (va_up (cs_i zc) 1 ((31 * ((31 * (cs_i zc 1)) + 2)) + 1), cs_n zc, cs_I zc, cs_L zc, cs_N zc, cs_S zc, cs_X zc)) [(0, 0), (0, 7), (2, jg), (0, 11)] [cTP zc, cR7 cA zc, (cs_X zc 2 jg, .inr (1, [.int (nI jg), .int (cs_I zc 21 jg), .int (cs_I zc 22 jg), .long (cs_L zc 0 jg)])), (cs_X zc 0 11, .inr (9, [.int ((31 * ((31 * (cs_i zc 1)) + 2)) + 1)]))] ∧ ∀ i j, (i, j) ∉ ([(0, 0), (0, 7), (2, jg), (0, 11)] : List (Nat × Nat)) → cF cA (va_up (cs_i zc) 1 ((31 * ((31 * (cs_i zc 1)) + 2)) + 1), cs_n zc, cs_I zc, cs_L zc, cs_N zc, cs_S zc, cs_X zc) i j = none ∨ ((i, j) ∉ ([(0, 0), (0, 7), (2, jg), (0, 11)] : List (Nat × Nat)) ∧ cF cA (va_up (cs_i zc) 1 ((31 * ((31 * (cs_i zc 1)) + 2)) + 1), cs_n zc, cs_I zc, cs_L zc, cs_N zc, cs_S zc, cs_X zc) i j = cF cA zc i j) := by
  obtain ⟨⟨hn0, hn1, hn2, hn3, hn4, hn5⟩, hpi, hgk, htk, hpk, hsh⟩ := id hI
  refine ⟨hI, ⟨(by (rw [(kF_tp (cA := cA) (z := (va_up (cs_i zc) 1 ((31 * ((31 * (cs_i zc 1)) + 2)) + 1), cs_n zc, cs_I zc, cs_L zc, cs_N zc, cs_S zc, cs_X zc)))]) <;> simp [cTP, cTPN, cTPA, cLo, cA2, cA3, cA4, cA5, cR6, cR7, cR8, cR9, cR10, cTr, cPi, cPiN, cPiT, cGa, cGaK, cTa, cPa, cAu, cAuN, cAuB, cSh, cSc, cs_i, cs_n, cs_I, cs_L, cs_N, cs_S, cs_X, va_up, upd, opN]), (by (rw [(kF_r7 (cA := cA) (z := (va_up (cs_i zc) 1 ((31 * ((31 * (cs_i zc 1)) + 2)) + 1), cs_n zc, cs_I zc, cs_L zc, cs_N zc, cs_S zc, cs_X zc)))]) <;> simp [cTP, cTPN, cTPA, cLo, cA2, cA3, cA4, cA5, cR6, cR7, cR8, cR9, cR10, cTr, cPi, cPiN, cPiT, cGa, cGaK, cTa, cPa, cAu, cAuN, cAuB, cSh, cSc, cs_i, cs_n, cs_I, cs_L, cs_N, cs_S, cs_X, va_up, upd, opN]), (by (rw [(kF_gaK (z := (va_up (cs_i zc) 1 ((31 * ((31 * (cs_i zc 1)) + 2)) + 1), cs_n zc, cs_I zc, cs_L zc, cs_N zc, cs_S zc, cs_X zc)) (j := jg) hjg hk)]) <;> simp [cTP, cTPN, cTPA, cLo, cA2, cA3, cA4, cA5, cR6, cR7, cR8, cR9, cR10, cTr, cPi, cPiN, cPiT, cGa, cGaK, cTa, cPa, cAu, cAuN, cAuB, cSh, cSc, cs_i, cs_n, cs_I, cs_L, cs_N, cs_S, cs_X, va_up, upd, opN]), (by (rw [(kF_tr (cA := cA) (z := (va_up (cs_i zc) 1 ((31 * ((31 * (cs_i zc 1)) + 2)) + 1), cs_n zc, cs_I zc, cs_L zc, cs_N zc, cs_S zc, cs_X zc)))]) <;> simp [cTP, cTPN, cTPA, cLo, cA2, cA3, cA4, cA5, cR6, cR7, cR8, cR9, cR10, cTr, cPi, cPiN, cPiT, cGa, cGaK, cTa, cPa, cAu, cAuN, cAuB, cSh, cSc, cs_i, cs_n, cs_I, cs_L, cs_N, cs_S, cs_X, va_up, upd, opN]), trivial⟩, ?_⟩
  intro i j hij
  refine Or.inr ⟨hij, ?_⟩
  rcases i with _ | _ | _ | _ | _ | _ | _ | _ | i
  · rcases j with _ | _ | _ | _ | _ | _ | _ | _ | _ | _ | _ | _ | j
    · exact absurd (by simp) hij
    · show some (cLo (va_up (cs_i zc) 1 ((31 * ((31 * (cs_i zc 1)) + 2)) + 1), cs_n zc, cs_I zc, cs_L zc, cs_N zc, cs_S zc, cs_X zc)) = some (cLo zc); simp [cLo, cs_i, cs_n, cs_I, cs_L, cs_N, cs_S, cs_X, va_up]
    · show some (cA2 cA (va_up (cs_i zc) 1 ((31 * ((31 * (cs_i zc 1)) + 2)) + 1), cs_n zc, cs_I zc, cs_L zc, cs_N zc, cs_S zc, cs_X zc)) = some (cA2 cA zc); simp [cA2, cs_i, cs_n, cs_I, cs_L, cs_N, cs_S, cs_X, va_up]
    · show some (cA3 cA (va_up (cs_i zc) 1 ((31 * ((31 * (cs_i zc 1)) + 2)) + 1), cs_n zc, cs_I zc, cs_L zc, cs_N zc, cs_S zc, cs_X zc)) = some (cA3 cA zc); simp [cA3, cs_i, cs_n, cs_I, cs_L, cs_N, cs_S, cs_X, va_up]
    · show some (cA4 cA (va_up (cs_i zc) 1 ((31 * ((31 * (cs_i zc 1)) + 2)) + 1), cs_n zc, cs_I zc, cs_L zc, cs_N zc, cs_S zc, cs_X zc)) = some (cA4 cA zc); simp [cA4, cs_i, cs_n, cs_I, cs_L, cs_N, cs_S, cs_X, va_up]
    · show some (cA5 cA (va_up (cs_i zc) 1 ((31 * ((31 * (cs_i zc 1)) + 2)) + 1), cs_n zc, cs_I zc, cs_L zc, cs_N zc, cs_S zc, cs_X zc)) = some (cA5 cA zc); simp [cA5, cs_i, cs_n, cs_I, cs_L, cs_N, cs_S, cs_X, va_up]
    · show some (cR6 cA (va_up (cs_i zc) 1 ((31 * ((31 * (cs_i zc 1)) + 2)) + 1), cs_n zc, cs_I zc, cs_L zc, cs_N zc, cs_S zc, cs_X zc)) = some (cR6 cA zc); simp [cR6, cs_i, cs_n, cs_I, cs_L, cs_N, cs_S, cs_X, va_up]
    · exact absurd (by simp) hij
    · show some (cR8 cA (va_up (cs_i zc) 1 ((31 * ((31 * (cs_i zc 1)) + 2)) + 1), cs_n zc, cs_I zc, cs_L zc, cs_N zc, cs_S zc, cs_X zc)) = some (cR8 cA zc); simp [cR8, cs_i, cs_n, cs_I, cs_L, cs_N, cs_S, cs_X, va_up]
    · show some (cR9 cA (va_up (cs_i zc) 1 ((31 * ((31 * (cs_i zc 1)) + 2)) + 1), cs_n zc, cs_I zc, cs_L zc, cs_N zc, cs_S zc, cs_X zc)) = some (cR9 cA zc); simp [cR9, cs_i, cs_n, cs_I, cs_L, cs_N, cs_S, cs_X, va_up]
    · show some (cR10 cA (va_up (cs_i zc) 1 ((31 * ((31 * (cs_i zc 1)) + 2)) + 1), cs_n zc, cs_I zc, cs_L zc, cs_N zc, cs_S zc, cs_X zc)) = some (cR10 cA zc); simp [cR10, cs_i, cs_n, cs_I, cs_L, cs_N, cs_S, cs_X, va_up]
    · exact absurd (by simp) hij
    · show (none : Option (Nat × va_E)) = none; rfl
  · show (if j < cs_n (va_up (cs_i zc) 1 ((31 * ((31 * (cs_i zc 1)) + 2)) + 1), cs_n zc, cs_I zc, cs_L zc, cs_N zc, cs_S zc, cs_X zc) 0 then some (cPi (va_up (cs_i zc) 1 ((31 * ((31 * (cs_i zc 1)) + 2)) + 1), cs_n zc, cs_I zc, cs_L zc, cs_N zc, cs_S zc, cs_X zc) j) else none) = if j < cs_n zc 0 then some (cPi zc j) else none
    simp [cPi, cs_i, cs_n, cs_I, cs_L, cs_N, cs_S, cs_X, va_up]
  · show (if j < cs_n (va_up (cs_i zc) 1 ((31 * ((31 * (cs_i zc 1)) + 2)) + 1), cs_n zc, cs_I zc, cs_L zc, cs_N zc, cs_S zc, cs_X zc) 1 then some (cGa (va_up (cs_i zc) 1 ((31 * ((31 * (cs_i zc 1)) + 2)) + 1), cs_n zc, cs_I zc, cs_L zc, cs_N zc, cs_S zc, cs_X zc) j) else none) = if j < cs_n zc 1 then some (cGa zc j) else none
    simp [cGa, cs_i, cs_n, cs_I, cs_L, cs_N, cs_S, cs_X, va_up]
  · show (if j < cs_n (va_up (cs_i zc) 1 ((31 * ((31 * (cs_i zc 1)) + 2)) + 1), cs_n zc, cs_I zc, cs_L zc, cs_N zc, cs_S zc, cs_X zc) 2 then some (cTa (va_up (cs_i zc) 1 ((31 * ((31 * (cs_i zc 1)) + 2)) + 1), cs_n zc, cs_I zc, cs_L zc, cs_N zc, cs_S zc, cs_X zc) j) else none) = if j < cs_n zc 2 then some (cTa zc j) else none
    simp [cTa, cs_i, cs_n, cs_I, cs_L, cs_N, cs_S, cs_X, va_up]
  · show (if j < cs_n (va_up (cs_i zc) 1 ((31 * ((31 * (cs_i zc 1)) + 2)) + 1), cs_n zc, cs_I zc, cs_L zc, cs_N zc, cs_S zc, cs_X zc) 3 then some (cPa (va_up (cs_i zc) 1 ((31 * ((31 * (cs_i zc 1)) + 2)) + 1), cs_n zc, cs_I zc, cs_L zc, cs_N zc, cs_S zc, cs_X zc) j) else none) = if j < cs_n zc 3 then some (cPa zc j) else none
    simp [cPa, cs_i, cs_n, cs_I, cs_L, cs_N, cs_S, cs_X, va_up]
  · show (if j = 0 ∧ ¬ cs_n (va_up (cs_i zc) 1 ((31 * ((31 * (cs_i zc 1)) + 2)) + 1), cs_n zc, cs_I zc, cs_L zc, cs_N zc, cs_S zc, cs_X zc) 4 = 0 then some (cAu (va_up (cs_i zc) 1 ((31 * ((31 * (cs_i zc 1)) + 2)) + 1), cs_n zc, cs_I zc, cs_L zc, cs_N zc, cs_S zc, cs_X zc)) else none) = if j = 0 ∧ ¬ cs_n zc 4 = 0 then some (cAu zc) else none
    simp [cAu, cs_i, cs_n, cs_I, cs_L, cs_N, cs_S, cs_X, va_up]
  · show (if j < 4 then some (cSh (va_up (cs_i zc) 1 ((31 * ((31 * (cs_i zc 1)) + 2)) + 1), cs_n zc, cs_I zc, cs_L zc, cs_N zc, cs_S zc, cs_X zc) j) else none) = if j < 4 then some (cSh zc j) else none
    simp [cSh, cs_i, cs_n, cs_I, cs_L, cs_N, cs_S, cs_X, va_up]
  · show (if j < 4 then some (cSc cA (va_up (cs_i zc) 1 ((31 * ((31 * (cs_i zc 1)) + 2)) + 1), cs_n zc, cs_I zc, cs_L zc, cs_N zc, cs_S zc, cs_X zc) j) else none) = if j < 4 then some (cSc cA zc j) else none
    simp [cSc, cs_i, cs_n, cs_I, cs_L, cs_N, cs_S, cs_X, va_up]
  · show (none : Option (Nat × va_E)) = none; rfl
set_option maxHeartbeats 4000000 in
theorem lf_tell_2 (cA : Nat → ClassId) (zc : CS) (jg : Nat) (hjg : jg < cs_n zc 1) (hk : cs_N zc 1 jg = 2) (hI : invC zc) : invC (va_up (cs_i zc) 1 ((31 * (cs_i zc 1)) + 1), cs_n zc, cs_I zc, cs_L zc, cs_N zc, cs_S zc, cs_X zc) ∧ kAll (cF cA (va_up (cs_i zc) 1 ((31 * (cs_i zc 1)) + 1), cs_n zc, cs_I zc, cs_L zc, cs_N zc, cs_S zc, cs_X zc)) [(0, 0), (0, 7), (2, jg), (0, 11)] [cTP zc, cR7 cA zc, (cs_X zc 2 jg, .inr (2, [.int (nI jg), .int (cs_I zc 21 jg), .int (cs_I zc 22 jg), .long (cs_L zc 0 jg)])), (cs_X zc 0 11, .inr (9, [.int ((31 * (cs_i zc 1)) + 1)]))] ∧ ∀ i j, (i, j) ∉ ([(0, 0), (0, 7), (2, jg), (0, 11)] : List (Nat × Nat)) → cF cA (va_up (cs_i zc) 1 ((31 * (cs_i zc 1)) + 1), cs_n zc, cs_I zc, cs_L zc, cs_N zc, cs_S zc, cs_X zc) i j = none ∨ ((i, j) ∉ ([(0, 0), (0, 7), (2, jg), (0, 11)] : List (Nat × Nat)) ∧ cF cA (va_up (cs_i zc) 1 ((31 * (cs_i zc 1)) + 1), cs_n zc, cs_I zc, cs_L zc, cs_N zc, cs_S zc, cs_X zc) i j = cF cA zc i j) := by
  obtain ⟨⟨hn0, hn1, hn2, hn3, hn4, hn5⟩, hpi, hgk, htk, hpk, hsh⟩ := id hI
  refine ⟨hI, ⟨(by (rw [(kF_tp (cA := cA) (z := (va_up (cs_i zc) 1 ((31 * (cs_i zc 1)) + 1), cs_n zc, cs_I zc, cs_L zc, cs_N zc, cs_S zc, cs_X zc)))]) <;> simp [cTP, cTPN, cTPA, cLo, cA2, cA3, cA4, cA5, cR6, cR7, cR8, cR9, cR10, cTr, cPi, cPiN, cPiT, cGa, cGaK, cTa, cPa, cAu, cAuN, cAuB, cSh, cSc, cs_i, cs_n, cs_I, cs_L, cs_N, cs_S, cs_X, va_up, upd, opN]), (by (rw [(kF_r7 (cA := cA) (z := (va_up (cs_i zc) 1 ((31 * (cs_i zc 1)) + 1), cs_n zc, cs_I zc, cs_L zc, cs_N zc, cs_S zc, cs_X zc)))]) <;> simp [cTP, cTPN, cTPA, cLo, cA2, cA3, cA4, cA5, cR6, cR7, cR8, cR9, cR10, cTr, cPi, cPiN, cPiT, cGa, cGaK, cTa, cPa, cAu, cAuN, cAuB, cSh, cSc, cs_i, cs_n, cs_I, cs_L, cs_N, cs_S, cs_X, va_up, upd, opN]), (by (rw [(kF_gaK (z := (va_up (cs_i zc) 1 ((31 * (cs_i zc 1)) + 1), cs_n zc, cs_I zc, cs_L zc, cs_N zc, cs_S zc, cs_X zc)) (j := jg) hjg hk)]) <;> simp [cTP, cTPN, cTPA, cLo, cA2, cA3, cA4, cA5, cR6, cR7, cR8, cR9, cR10, cTr, cPi, cPiN, cPiT, cGa, cGaK, cTa, cPa, cAu, cAuN, cAuB, cSh, cSc, cs_i, cs_n, cs_I, cs_L, cs_N, cs_S, cs_X, va_up, upd, opN]), (by (rw [(kF_tr (cA := cA) (z := (va_up (cs_i zc) 1 ((31 * (cs_i zc 1)) + 1), cs_n zc, cs_I zc, cs_L zc, cs_N zc, cs_S zc, cs_X zc)))]) <;> simp [cTP, cTPN, cTPA, cLo, cA2, cA3, cA4, cA5, cR6, cR7, cR8, cR9, cR10, cTr, cPi, cPiN, cPiT, cGa, cGaK, cTa, cPa, cAu, cAuN, cAuB, cSh, cSc, cs_i, cs_n, cs_I, cs_L, cs_N, cs_S, cs_X, va_up, upd, opN]), trivial⟩, ?_⟩
  intro i j hij
  refine Or.inr ⟨hij, ?_⟩
  rcases i with _ | _ | _ | _ | _ | _ | _ | _ | i
  · rcases j with _ | _ | _ | _ | _ | _ | _ | _ | _ | _ | _ | _ | j
    · exact absurd (by simp) hij
    · show some (cLo (va_up (cs_i zc) 1 ((31 * (cs_i zc 1)) + 1), cs_n zc, cs_I zc, cs_L zc, cs_N zc, cs_S zc, cs_X zc)) = some (cLo zc); simp [cLo, cs_i, cs_n, cs_I, cs_L, cs_N, cs_S, cs_X, va_up]
    · show some (cA2 cA (va_up (cs_i zc) 1 ((31 * (cs_i zc 1)) + 1), cs_n zc, cs_I zc, cs_L zc, cs_N zc, cs_S zc, cs_X zc)) = some (cA2 cA zc); simp [cA2, cs_i, cs_n, cs_I, cs_L, cs_N, cs_S, cs_X, va_up]
    · show some (cA3 cA (va_up (cs_i zc) 1 ((31 * (cs_i zc 1)) + 1), cs_n zc, cs_I zc, cs_L zc, cs_N zc, cs_S zc, cs_X zc)) = some (cA3 cA zc); simp [cA3, cs_i, cs_n, cs_I, cs_L, cs_N, cs_S, cs_X, va_up]
    · show some (cA4 cA (va_up (cs_i zc) 1 ((31 * (cs_i zc 1)) + 1), cs_n zc, cs_I zc, cs_L zc, cs_N zc, cs_S zc, cs_X zc)) = some (cA4 cA zc); simp [cA4, cs_i, cs_n, cs_I, cs_L, cs_N, cs_S, cs_X, va_up]
    · show some (cA5 cA (va_up (cs_i zc) 1 ((31 * (cs_i zc 1)) + 1), cs_n zc, cs_I zc, cs_L zc, cs_N zc, cs_S zc, cs_X zc)) = some (cA5 cA zc); simp [cA5, cs_i, cs_n, cs_I, cs_L, cs_N, cs_S, cs_X, va_up]
    · show some (cR6 cA (va_up (cs_i zc) 1 ((31 * (cs_i zc 1)) + 1), cs_n zc, cs_I zc, cs_L zc, cs_N zc, cs_S zc, cs_X zc)) = some (cR6 cA zc); simp [cR6, cs_i, cs_n, cs_I, cs_L, cs_N, cs_S, cs_X, va_up]
    · exact absurd (by simp) hij
    · show some (cR8 cA (va_up (cs_i zc) 1 ((31 * (cs_i zc 1)) + 1), cs_n zc, cs_I zc, cs_L zc, cs_N zc, cs_S zc, cs_X zc)) = some (cR8 cA zc); simp [cR8, cs_i, cs_n, cs_I, cs_L, cs_N, cs_S, cs_X, va_up]
    · show some (cR9 cA (va_up (cs_i zc) 1 ((31 * (cs_i zc 1)) + 1), cs_n zc, cs_I zc, cs_L zc, cs_N zc, cs_S zc, cs_X zc)) = some (cR9 cA zc); simp [cR9, cs_i, cs_n, cs_I, cs_L, cs_N, cs_S, cs_X, va_up]
    · show some (cR10 cA (va_up (cs_i zc) 1 ((31 * (cs_i zc 1)) + 1), cs_n zc, cs_I zc, cs_L zc, cs_N zc, cs_S zc, cs_X zc)) = some (cR10 cA zc); simp [cR10, cs_i, cs_n, cs_I, cs_L, cs_N, cs_S, cs_X, va_up]
    · exact absurd (by simp) hij
    · show (none : Option (Nat × va_E)) = none; rfl
  · show (if j < cs_n (va_up (cs_i zc) 1 ((31 * (cs_i zc 1)) + 1), cs_n zc, cs_I zc, cs_L zc, cs_N zc, cs_S zc, cs_X zc) 0 then some (cPi (va_up (cs_i zc) 1 ((31 * (cs_i zc 1)) + 1), cs_n zc, cs_I zc, cs_L zc, cs_N zc, cs_S zc, cs_X zc) j) else none) = if j < cs_n zc 0 then some (cPi zc j) else none
    simp [cPi, cs_i, cs_n, cs_I, cs_L, cs_N, cs_S, cs_X, va_up]
  · show (if j < cs_n (va_up (cs_i zc) 1 ((31 * (cs_i zc 1)) + 1), cs_n zc, cs_I zc, cs_L zc, cs_N zc, cs_S zc, cs_X zc) 1 then some (cGa (va_up (cs_i zc) 1 ((31 * (cs_i zc 1)) + 1), cs_n zc, cs_I zc, cs_L zc, cs_N zc, cs_S zc, cs_X zc) j) else none) = if j < cs_n zc 1 then some (cGa zc j) else none
    simp [cGa, cs_i, cs_n, cs_I, cs_L, cs_N, cs_S, cs_X, va_up]
  · show (if j < cs_n (va_up (cs_i zc) 1 ((31 * (cs_i zc 1)) + 1), cs_n zc, cs_I zc, cs_L zc, cs_N zc, cs_S zc, cs_X zc) 2 then some (cTa (va_up (cs_i zc) 1 ((31 * (cs_i zc 1)) + 1), cs_n zc, cs_I zc, cs_L zc, cs_N zc, cs_S zc, cs_X zc) j) else none) = if j < cs_n zc 2 then some (cTa zc j) else none
    simp [cTa, cs_i, cs_n, cs_I, cs_L, cs_N, cs_S, cs_X, va_up]
  · show (if j < cs_n (va_up (cs_i zc) 1 ((31 * (cs_i zc 1)) + 1), cs_n zc, cs_I zc, cs_L zc, cs_N zc, cs_S zc, cs_X zc) 3 then some (cPa (va_up (cs_i zc) 1 ((31 * (cs_i zc 1)) + 1), cs_n zc, cs_I zc, cs_L zc, cs_N zc, cs_S zc, cs_X zc) j) else none) = if j < cs_n zc 3 then some (cPa zc j) else none
    simp [cPa, cs_i, cs_n, cs_I, cs_L, cs_N, cs_S, cs_X, va_up]
  · show (if j = 0 ∧ ¬ cs_n (va_up (cs_i zc) 1 ((31 * (cs_i zc 1)) + 1), cs_n zc, cs_I zc, cs_L zc, cs_N zc, cs_S zc, cs_X zc) 4 = 0 then some (cAu (va_up (cs_i zc) 1 ((31 * (cs_i zc 1)) + 1), cs_n zc, cs_I zc, cs_L zc, cs_N zc, cs_S zc, cs_X zc)) else none) = if j = 0 ∧ ¬ cs_n zc 4 = 0 then some (cAu zc) else none
    simp [cAu, cs_i, cs_n, cs_I, cs_L, cs_N, cs_S, cs_X, va_up]
  · show (if j < 4 then some (cSh (va_up (cs_i zc) 1 ((31 * (cs_i zc 1)) + 1), cs_n zc, cs_I zc, cs_L zc, cs_N zc, cs_S zc, cs_X zc) j) else none) = if j < 4 then some (cSh zc j) else none
    simp [cSh, cs_i, cs_n, cs_I, cs_L, cs_N, cs_S, cs_X, va_up]
  · show (if j < 4 then some (cSc cA (va_up (cs_i zc) 1 ((31 * (cs_i zc 1)) + 1), cs_n zc, cs_I zc, cs_L zc, cs_N zc, cs_S zc, cs_X zc) j) else none) = if j < 4 then some (cSc cA zc j) else none
    simp [cSc, cs_i, cs_n, cs_I, cs_L, cs_N, cs_S, cs_X, va_up]
  · show (none : Option (Nat × va_E)) = none; rfl
set_option maxHeartbeats 4000000 in
theorem lf_tell_3 (cA : Nat → ClassId) (zc : CS) (jg : Nat) (hjg : jg < cs_n zc 1) (hk : cs_N zc 1 jg = 4) (hI : invC zc) : invC (va_up (cs_i zc) 1 ((31 * ((31 * (cs_i zc 1)) + 3)) + 1), cs_n zc, cs_I zc, cs_L zc, cs_N zc, cs_S zc, cs_X zc) ∧ kAll (cF cA (va_up (cs_i zc) 1 ((31 * ((31 * (cs_i zc 1)) + 3)) + 1), cs_n zc, cs_I zc, cs_L zc, cs_N zc, cs_S zc, cs_X zc)) [(0, 0), (0, 7), (2, jg), (0, 11)] [cTP zc, cR7 cA zc, (cs_X zc 2 jg, .inr (4, [.int (nI jg), .int (cs_I zc 21 jg), .int (cs_I zc 22 jg), .long (cs_L zc 0 jg)])), (cs_X zc 0 11, .inr (9, [.int ((31 * ((31 * (cs_i zc 1)) + 3)) + 1)]))] ∧ ∀ i j, (i, j) ∉ ([(0, 0), (0, 7), (2, jg), (0, 11)] : List (Nat × Nat)) → cF cA (va_up (cs_i zc) 1 ((31 * ((31 * (cs_i zc 1)) + 3)) + 1), cs_n zc, cs_I zc, cs_L zc, cs_N zc, cs_S zc, cs_X zc) i j = none ∨ ((i, j) ∉ ([(0, 0), (0, 7), (2, jg), (0, 11)] : List (Nat × Nat)) ∧ cF cA (va_up (cs_i zc) 1 ((31 * ((31 * (cs_i zc 1)) + 3)) + 1), cs_n zc, cs_I zc, cs_L zc, cs_N zc, cs_S zc, cs_X zc) i j = cF cA zc i j) := by
  obtain ⟨⟨hn0, hn1, hn2, hn3, hn4, hn5⟩, hpi, hgk, htk, hpk, hsh⟩ := id hI
  refine ⟨hI, ⟨(by (rw [(kF_tp (cA := cA) (z := (va_up (cs_i zc) 1 ((31 * ((31 * (cs_i zc 1)) + 3)) + 1), cs_n zc, cs_I zc, cs_L zc, cs_N zc, cs_S zc, cs_X zc)))]) <;> simp [cTP, cTPN, cTPA, cLo, cA2, cA3, cA4, cA5, cR6, cR7, cR8, cR9, cR10, cTr, cPi, cPiN, cPiT, cGa, cGaK, cTa, cPa, cAu, cAuN, cAuB, cSh, cSc, cs_i, cs_n, cs_I, cs_L, cs_N, cs_S, cs_X, va_up, upd, opN]), (by (rw [(kF_r7 (cA := cA) (z := (va_up (cs_i zc) 1 ((31 * ((31 * (cs_i zc 1)) + 3)) + 1), cs_n zc, cs_I zc, cs_L zc, cs_N zc, cs_S zc, cs_X zc)))]) <;> simp [cTP, cTPN, cTPA, cLo, cA2, cA3, cA4, cA5, cR6, cR7, cR8, cR9, cR10, cTr, cPi, cPiN, cPiT, cGa, cGaK, cTa, cPa, cAu, cAuN, cAuB, cSh, cSc, cs_i, cs_n, cs_I, cs_L, cs_N, cs_S, cs_X, va_up, upd, opN]), (by (rw [(kF_gaK (z := (va_up (cs_i zc) 1 ((31 * ((31 * (cs_i zc 1)) + 3)) + 1), cs_n zc, cs_I zc, cs_L zc, cs_N zc, cs_S zc, cs_X zc)) (j := jg) hjg hk)]) <;> simp [cTP, cTPN, cTPA, cLo, cA2, cA3, cA4, cA5, cR6, cR7, cR8, cR9, cR10, cTr, cPi, cPiN, cPiT, cGa, cGaK, cTa, cPa, cAu, cAuN, cAuB, cSh, cSc, cs_i, cs_n, cs_I, cs_L, cs_N, cs_S, cs_X, va_up, upd, opN]), (by (rw [(kF_tr (cA := cA) (z := (va_up (cs_i zc) 1 ((31 * ((31 * (cs_i zc 1)) + 3)) + 1), cs_n zc, cs_I zc, cs_L zc, cs_N zc, cs_S zc, cs_X zc)))]) <;> simp [cTP, cTPN, cTPA, cLo, cA2, cA3, cA4, cA5, cR6, cR7, cR8, cR9, cR10, cTr, cPi, cPiN, cPiT, cGa, cGaK, cTa, cPa, cAu, cAuN, cAuB, cSh, cSc, cs_i, cs_n, cs_I, cs_L, cs_N, cs_S, cs_X, va_up, upd, opN]), trivial⟩, ?_⟩
  intro i j hij
  refine Or.inr ⟨hij, ?_⟩
  rcases i with _ | _ | _ | _ | _ | _ | _ | _ | i
  · rcases j with _ | _ | _ | _ | _ | _ | _ | _ | _ | _ | _ | _ | j
    · exact absurd (by simp) hij
    · show some (cLo (va_up (cs_i zc) 1 ((31 * ((31 * (cs_i zc 1)) + 3)) + 1), cs_n zc, cs_I zc, cs_L zc, cs_N zc, cs_S zc, cs_X zc)) = some (cLo zc); simp [cLo, cs_i, cs_n, cs_I, cs_L, cs_N, cs_S, cs_X, va_up]
    · show some (cA2 cA (va_up (cs_i zc) 1 ((31 * ((31 * (cs_i zc 1)) + 3)) + 1), cs_n zc, cs_I zc, cs_L zc, cs_N zc, cs_S zc, cs_X zc)) = some (cA2 cA zc); simp [cA2, cs_i, cs_n, cs_I, cs_L, cs_N, cs_S, cs_X, va_up]
    · show some (cA3 cA (va_up (cs_i zc) 1 ((31 * ((31 * (cs_i zc 1)) + 3)) + 1), cs_n zc, cs_I zc, cs_L zc, cs_N zc, cs_S zc, cs_X zc)) = some (cA3 cA zc); simp [cA3, cs_i, cs_n, cs_I, cs_L, cs_N, cs_S, cs_X, va_up]
    · show some (cA4 cA (va_up (cs_i zc) 1 ((31 * ((31 * (cs_i zc 1)) + 3)) + 1), cs_n zc, cs_I zc, cs_L zc, cs_N zc, cs_S zc, cs_X zc)) = some (cA4 cA zc); simp [cA4, cs_i, cs_n, cs_I, cs_L, cs_N, cs_S, cs_X, va_up]
    · show some (cA5 cA (va_up (cs_i zc) 1 ((31 * ((31 * (cs_i zc 1)) + 3)) + 1), cs_n zc, cs_I zc, cs_L zc, cs_N zc, cs_S zc, cs_X zc)) = some (cA5 cA zc); simp [cA5, cs_i, cs_n, cs_I, cs_L, cs_N, cs_S, cs_X, va_up]
    · show some (cR6 cA (va_up (cs_i zc) 1 ((31 * ((31 * (cs_i zc 1)) + 3)) + 1), cs_n zc, cs_I zc, cs_L zc, cs_N zc, cs_S zc, cs_X zc)) = some (cR6 cA zc); simp [cR6, cs_i, cs_n, cs_I, cs_L, cs_N, cs_S, cs_X, va_up]
    · exact absurd (by simp) hij
    · show some (cR8 cA (va_up (cs_i zc) 1 ((31 * ((31 * (cs_i zc 1)) + 3)) + 1), cs_n zc, cs_I zc, cs_L zc, cs_N zc, cs_S zc, cs_X zc)) = some (cR8 cA zc); simp [cR8, cs_i, cs_n, cs_I, cs_L, cs_N, cs_S, cs_X, va_up]
    · show some (cR9 cA (va_up (cs_i zc) 1 ((31 * ((31 * (cs_i zc 1)) + 3)) + 1), cs_n zc, cs_I zc, cs_L zc, cs_N zc, cs_S zc, cs_X zc)) = some (cR9 cA zc); simp [cR9, cs_i, cs_n, cs_I, cs_L, cs_N, cs_S, cs_X, va_up]
    · show some (cR10 cA (va_up (cs_i zc) 1 ((31 * ((31 * (cs_i zc 1)) + 3)) + 1), cs_n zc, cs_I zc, cs_L zc, cs_N zc, cs_S zc, cs_X zc)) = some (cR10 cA zc); simp [cR10, cs_i, cs_n, cs_I, cs_L, cs_N, cs_S, cs_X, va_up]
    · exact absurd (by simp) hij
    · show (none : Option (Nat × va_E)) = none; rfl
  · show (if j < cs_n (va_up (cs_i zc) 1 ((31 * ((31 * (cs_i zc 1)) + 3)) + 1), cs_n zc, cs_I zc, cs_L zc, cs_N zc, cs_S zc, cs_X zc) 0 then some (cPi (va_up (cs_i zc) 1 ((31 * ((31 * (cs_i zc 1)) + 3)) + 1), cs_n zc, cs_I zc, cs_L zc, cs_N zc, cs_S zc, cs_X zc) j) else none) = if j < cs_n zc 0 then some (cPi zc j) else none
    simp [cPi, cs_i, cs_n, cs_I, cs_L, cs_N, cs_S, cs_X, va_up]
  · show (if j < cs_n (va_up (cs_i zc) 1 ((31 * ((31 * (cs_i zc 1)) + 3)) + 1), cs_n zc, cs_I zc, cs_L zc, cs_N zc, cs_S zc, cs_X zc) 1 then some (cGa (va_up (cs_i zc) 1 ((31 * ((31 * (cs_i zc 1)) + 3)) + 1), cs_n zc, cs_I zc, cs_L zc, cs_N zc, cs_S zc, cs_X zc) j) else none) = if j < cs_n zc 1 then some (cGa zc j) else none
    simp [cGa, cs_i, cs_n, cs_I, cs_L, cs_N, cs_S, cs_X, va_up]
  · show (if j < cs_n (va_up (cs_i zc) 1 ((31 * ((31 * (cs_i zc 1)) + 3)) + 1), cs_n zc, cs_I zc, cs_L zc, cs_N zc, cs_S zc, cs_X zc) 2 then some (cTa (va_up (cs_i zc) 1 ((31 * ((31 * (cs_i zc 1)) + 3)) + 1), cs_n zc, cs_I zc, cs_L zc, cs_N zc, cs_S zc, cs_X zc) j) else none) = if j < cs_n zc 2 then some (cTa zc j) else none
    simp [cTa, cs_i, cs_n, cs_I, cs_L, cs_N, cs_S, cs_X, va_up]
  · show (if j < cs_n (va_up (cs_i zc) 1 ((31 * ((31 * (cs_i zc 1)) + 3)) + 1), cs_n zc, cs_I zc, cs_L zc, cs_N zc, cs_S zc, cs_X zc) 3 then some (cPa (va_up (cs_i zc) 1 ((31 * ((31 * (cs_i zc 1)) + 3)) + 1), cs_n zc, cs_I zc, cs_L zc, cs_N zc, cs_S zc, cs_X zc) j) else none) = if j < cs_n zc 3 then some (cPa zc j) else none
    simp [cPa, cs_i, cs_n, cs_I, cs_L, cs_N, cs_S, cs_X, va_up]
  · show (if j = 0 ∧ ¬ cs_n (va_up (cs_i zc) 1 ((31 * ((31 * (cs_i zc 1)) + 3)) + 1), cs_n zc, cs_I zc, cs_L zc, cs_N zc, cs_S zc, cs_X zc) 4 = 0 then some (cAu (va_up (cs_i zc) 1 ((31 * ((31 * (cs_i zc 1)) + 3)) + 1), cs_n zc, cs_I zc, cs_L zc, cs_N zc, cs_S zc, cs_X zc)) else none) = if j = 0 ∧ ¬ cs_n zc 4 = 0 then some (cAu zc) else none
    simp [cAu, cs_i, cs_n, cs_I, cs_L, cs_N, cs_S, cs_X, va_up]
  · show (if j < 4 then some (cSh (va_up (cs_i zc) 1 ((31 * ((31 * (cs_i zc 1)) + 3)) + 1), cs_n zc, cs_I zc, cs_L zc, cs_N zc, cs_S zc, cs_X zc) j) else none) = if j < 4 then some (cSh zc j) else none
    simp [cSh, cs_i, cs_n, cs_I, cs_L, cs_N, cs_S, cs_X, va_up]
  · show (if j < 4 then some (cSc cA (va_up (cs_i zc) 1 ((31 * ((31 * (cs_i zc 1)) + 3)) + 1), cs_n zc, cs_I zc, cs_L zc, cs_N zc, cs_S zc, cs_X zc) j) else none) = if j < 4 then some (cSc cA zc j) else none
    simp [cSc, cs_i, cs_n, cs_I, cs_L, cs_N, cs_S, cs_X, va_up]
  · show (none : Option (Nat × va_E)) = none; rfl
set_option maxHeartbeats 4000000 in
set_option maxRecDepth 100000 in
theorem K_tell (l : Launch) (dC : Nat → ClassId) (dI : Nat → Nat → Nat) (cA : Nat → ClassId) (sz : Nat) (zc : CS) (g : Int32) (hI : invC zc) : Met l yX10_tell wsX10_tell ({ frames := 3, cells := 0, slots := 0, locals := 90 }) (kw (dC, dI) (ctys cA) (cF cA zc) sz [.ref (cs_X zc 0 0), .int g]) (kQi (dC, dI) (ctys cA) (cF cA zc) sz (cF cA) (fun r u => (invC u ∧ cs_X u 0 0 = cs_X zc 0 0) ∧ pC_tell zc g r u)) 0 0 (kA (cF cA zc) sz) := by
  refine kw_met (cc := cX10_tell) (maxL := 3) (ret := (some .int)) (by decide) rfl (Nat.le_of_ble_eq_true rfl) ?_
  intro p e s m below meth c0 hx hb hr hml hown hlocks hnm hts hPk hKk hDk hN hsz ls hl
  subst hsz
  have hK : va_K (dC, dI) vwCl [(cA 0, .int), (cA 1, .object RX6), (cA 2, .object RX2), (cA 3, .object RX8), (cA 4, .object RX5), (cA 5, .object RX7)] s := hKk
  obtain ⟨⟨hn0, hn1, hn2, hn3, hn4, hn5⟩, hpi, hgk, htk, hpk, hsh⟩ := id hI
  have hl : lv_has ls 3 [(0, .ref (cs_X zc 0 0)), (1, .int g)] := hl
  have hiX10 : ∀ w ∈ wsX100, w ∈ wsX10_tell := fun _ h => List.mem_cons_of_mem _ (List.mem_append_left _ (List.mem_append_left _ (List.mem_append_left _ (List.mem_append_left _ (List.mem_append_right _ (h))))))
  generalize hQ : MQ _ _ _ _ _ _ _ = Q
  rcases ixd g (cs_n zc 1) with hnojg | ⟨jg, hjg, rfl⟩
  · skip
    have hks : kAll (cF cA zc) [(0, 0), (0, 7)] [cTP zc, cR7 cA zc] := ⟨(kF_tp (cA := cA) (z := zc)), (kF_r7 (cA := cA) (z := zc)), trivial⟩
    have hP : va_P (dC, dI) vwCl [cTP zc, cR7 cA zc] s.heap := kAll_P hPk hks
    have hD : va_D (va_A [cTP zc, cR7 cA zc] s.heap.size) [cTP zc, cR7 cA zc] := (kAll_D hDk hks (by simp)).self
    have hA : ∀ q : Nat, s.heap.size ≤ q → va_A [cTP zc, cR7 cA zc] s.heap.size q := fun q h => Or.inr h
    have hS : va_S (va_A [cTP zc, cR7 cA zc] s.heap.size) s.heap s.heap [] := va_S.rf
    refine lv_aload_n hx hb dX10_tell_0 rfl (lv_at hl 0 rfl) ?_
    refine lv_iload_n hx hb dX10_tell_1 rfl (lv_at hl 1 rfl) ?_
    have hPc := hP.sub (ws' := [cTP zc]) [0] rfl
    have hDc := hD.sub (ws' := [cTP zc]) [0] (by decide) rfl
    have hKc := hK.sub (tys' := []) [] rfl
    refine va_csq (va_Run.run (va_runV (As := [.int g]) (rest := []) ⟨hx, hb, hml, hown, hts⟩ (s_gangAt_no l dC dI  _ (cs_X zc 0 0) (.ref (cs_X zc 0 1)) (.ref (cs_X zc 0 6)) (.ref (cs_X zc 0 7)) (.ref (cs_X zc 0 8)) (.ref (cs_X zc 0 9)) (.ref (cs_X zc 0 10)) (.ref (cs_X zc 0 11)) (.int (nI (cs_n zc 0))) (.int (nI (cs_n zc 2))) (.int (nI (cs_n zc 3))) (va_rf (opN (cs_n zc 4) (fun _ => cs_X zc 5 0))) (.int (cs_i zc 2)) g (cs_n zc 1) (by omega) hnojg) (cwV 1 hts gX10_tell_X10_gangAt rfl rfl rfl (by decide +kernel) ⟨Nat.le_of_ble_eq_true rfl, Nat.le_of_ble_eq_true rfl⟩) (pw_preV (va_recv hKc hPc (ci := 10) (q0 := 0) rfl rfl) hPc hKc hDc hN) rfl rfl hl.1 rfl (lv_room (Nat.le_of_ble_eq_true rfl)) dX10_tell_2 ⟨Nat.le_of_ble_eq_true rfl, Nat.le_of_ble_eq_true rfl⟩)) (fun r1 hr1 => ?_)
    have hr1 : r1 = none := hr1
    subst hr1
    refine W.eq (g2 := F0 m 5 ls [.null]) rfl ?_
    refine lv_astore_nN (lv' := [(2, .null), (0, .ref (cs_X zc 0 0)), (1, .int g)]) hx hb dX10_tell_5 rfl hl (by decide) rfl (fun ls hl => ?_)
    refine lv_aload_nN hx hb dX10_tell_6 rfl (lv_at hl 0 rfl) ?_
    refine lv_ifnonnullN hx hb dX10_tell_7 ?_
    refine lv_iconst (v := (-1)) hx hb dX10_tell_10 (by decide) ?_
    refine lv_goto (tgt := 22) hx hb dX10_tell_11 (by decide) ?_
    subst hQ
    exact W.iret (v := (-1)) hx hb hr (fun t ht hW => ⟨⟨(-1), zc, rfl, ⟨⟨hI, rfl⟩, (Or.inl ⟨hnojg, rfl, rfl⟩)⟩, (by rw [ht]; exact hPk), va_K.moved hW.alike hKk, kDA_self hDk⟩, (kw_same hPk ht).2⟩) (fun q h => absurd h List.not_mem_nil) dX10_tell_22
  · skip
    rcases (hgk jg hjg) with hk | hk | hk
    · skip
      have hks : kAll (cF cA zc) [(0, 0), (0, 7), (2, jg), (0, 11)] [cTP zc, cR7 cA zc, cGaK zc jg 1, cTr zc] := ⟨(kF_tp (cA := cA) (z := zc)), (kF_r7 (cA := cA) (z := zc)), (kF_gaK (z := zc) (j := jg) hjg hk), (kF_tr (cA := cA) (z := zc)), trivial⟩
      have hP : va_P (dC, dI) vwCl [cTP zc, cR7 cA zc, cGaK zc jg 1, cTr zc] s.heap := kAll_P hPk hks
      have hD : va_D (va_A [cTP zc, cR7 cA zc, cGaK zc jg 1, cTr zc] s.heap.size) [cTP zc, cR7 cA zc, cGaK zc jg 1, cTr zc] := (kAll_D hDk hks (by simp)).self
      have hA : ∀ q : Nat, s.heap.size ≤ q → va_A [cTP zc, cR7 cA zc, cGaK zc jg 1, cTr zc] s.heap.size q := fun q h => Or.inr h
      have hS : va_S (va_A [cTP zc, cR7 cA zc, cGaK zc jg 1, cTr zc] s.heap.size) s.heap s.heap [] := va_S.rf
      refine lv_aload_n hx hb dX10_tell_0 rfl (lv_at hl 0 rfl) ?_
      refine lv_iload_n hx hb dX10_tell_1 rfl (lv_at hl 1 rfl) ?_
      have hPc := hP.sub (ws' := [cTP zc, cR7 cA zc]) [0, 1] rfl
      have hDc := hD.sub (ws' := [cTP zc, cR7 cA zc]) [0, 1] (by decide) rfl
      have hKc := hK.sub (tys' := [(cA 2, .object RX2)]) [2] rfl
      refine va_csq (va_Run.run (va_runV (As := [.int (nI jg)]) (rest := []) ⟨hx, hb, hml, hown, hts⟩ (s_gangAt_yes l dC dI (cA 2) _ (cs_X zc 0 0) (.ref (cs_X zc 0 1)) (.ref (cs_X zc 0 6)) (.ref (cs_X zc 0 8)) (.ref (cs_X zc 0 9)) (.ref (cs_X zc 0 10)) (.ref (cs_X zc 0 11)) (.int (nI (cs_n zc 0))) (.int (nI (cs_n zc 2))) (.int (nI (cs_n zc 3))) (va_rf (opN (cs_n zc 4) (fun _ => cs_X zc 5 0))) (.int (cs_i zc 2)) (cs_X zc 0 7) jg (cs_n zc 1) (cs_X zc 2 jg) (rfN (cs_n zc 1) (cs_X zc 2)) hjg (by omega) (rfN_at hjg)) (cwV 1 hts gX10_tell_X10_gangAt rfl rfl rfl (by decide +kernel) ⟨Nat.le_of_ble_eq_true rfl, Nat.le_of_ble_eq_true rfl⟩) (pw_preV (va_recv hKc hPc (ci := 10) (q0 := 0) rfl rfl) hPc hKc hDc hN) rfl rfl hl.1 rfl (lv_room (Nat.le_of_ble_eq_true rfl)) dX10_tell_2 ⟨Nat.le_of_ble_eq_true rfl, Nat.le_of_ble_eq_true rfl⟩)) (fun r2 hr2 => ?_)
      have hr2 : r2 = some (cs_X zc 2 jg) := hr2
      subst hr2
      refine W.eq (g2 := F0 m 5 ls [.ref (cs_X zc 2 jg)]) rfl ?_
      refine lv_astore_n (lv' := [(2, .ref (cs_X zc 2 jg)), (0, .ref (cs_X zc 0 0)), (1, .int (nI jg))]) hx hb dX10_tell_5 rfl hl (by decide) rfl (fun ls hl => ?_)
      refine lv_aload_n hx hb dX10_tell_6 rfl (lv_at hl 0 rfl) ?_
      refine lv_ifnonnull (tgt := 14) hx hb dX10_tell_7 (by decide) ?_
      refine lv_aload_n hx hb dX10_tell_14 rfl (lv_at hl 0 rfl) ?_
      refine lv_aload_n hx hb dX10_tell_15 rfl (lv_at hl 1 rfl) ?_
      refine va_get (D := (dC, dI)) (ci := 10) (v := .ref (cs_X zc 0 11)) (C := RX10) (T := TX10) (N := 13) hx hb hts hiX10 hown hK hP 0 rfl rfl 6 (by decide) (hts (.fieldLink RX10 52 "TributePitches" "steps" "LTributePitches$Trace;") (List.mem_of_getElem? (i := 1) rfl)) (fun _ h9 => h9) rfl dX10_tell_16 ?_
      have hPc := hP.sub (ws' := [cGaK zc jg 1, cTr zc]) [2, 3] rfl
      have hDc := hD.sub (ws' := [cGaK zc jg 1, cTr zc]) [2, 3] (by decide) rfl
      have hKc := hK.sub (tys' := []) [] rfl
      have hFc := va_free (wc := [cGaK zc jg 1, cTr zc]) hD hS hA [2, 3] rfl
      refine va_calli (va_runU (As := [.ref (cs_X zc 0 11)]) (rest := []) ⟨hx, hb, hml, hown, hts⟩ (s_tell_1 l dC dI  _ (cs_X zc 2 jg) (nI jg) (cs_I zc 21 jg) (cs_I zc 22 jg) (cs_L zc 0 jg) (cs_X zc 0 11) (cs_i zc 1) ) (va_cwO 1 hts gX10_tell_X1_telling_u304X1 rfl rfl rfl (b0 := cX2_telling) (m0 := 2) (r0 := (some .int)) (by decide +kernel) (by decide +kernel) ⟨Nat.le_of_ble_eq_true rfl, Nat.le_of_ble_eq_true rfl⟩) (pw_preV (va_recv hKc hPc (ci := 1) (q0 := 0) rfl rfl) hPc hKc hDc hN) rfl rfl hl.1 rfl (lv_room (Nat.le_of_ble_eq_true rfl)) dX10_tell_19 ⟨Nat.le_of_ble_eq_true rfl, Nat.le_of_ble_eq_true rfl⟩) hS (fun q _ h => hFc q h) hFc (fun r3 u t H1 locs ht hvm hw hB hz1 hk1 hS => ?_)
      have hr3 : r3 = 10 + (cs_I zc 21 jg) := hw
      obtain ⟨hP1, hK1, hD1⟩ := hB
      rw [ht] at hP1
      obtain ⟨hP, hD⟩ := va_join (wr := [cTP zc, cR7 cA zc]) (w1 := [(cs_X zc 2 jg, .inr (1, [.int (nI jg), .int (cs_I zc 21 jg), .int (cs_I zc 22 jg), .long (cs_L zc 0 jg)])), (cs_X zc 0 11, .inr (9, [.int ((31 * ((31 * (cs_i zc 1)) + 2)) + 1)]))]) hP hD [2, 3] [0, 1] rfl rfl (by decide) (by decide) hk1 hFc hP1 hD1
      generalize H1 = H at hP hS ⊢
      have hP : va_P (dC, dI) vwCl [cTP zc, cR7 cA zc, (cs_X zc 2 jg, .inr (1, [.int (nI jg), .int (cs_I zc 21 jg), .int (cs_I zc 22 jg), .long (cs_L zc 0 jg)])), (cs_X zc 0 11, .inr (9, [.int ((31 * ((31 * (cs_i zc 1)) + 2)) + 1)]))] H := hP
      have hD : va_D _ [cTP zc, cR7 cA zc, (cs_X zc 2 jg, .inr (1, [.int (nI jg), .int (cs_I zc 21 jg), .int (cs_I zc 22 jg), .long (cs_L zc 0 jg)])), (cs_X zc 0 11, .inr (9, [.int ((31 * ((31 * (cs_i zc 1)) + 2)) + 1)]))] := hD
      have hr3 := hr3.symm
      subst hr3
      refine W.eq (g2 := F0 m 22 ls [.int (10 + (cs_I zc 21 jg))]) rfl ?_
      subst hQ
      have hP9 : va_P (dC, dI) vwCl [cTP zc, cR7 cA zc, (cs_X zc 2 jg, .inr (1, [.int (nI jg), .int (cs_I zc 21 jg), .int (cs_I zc 22 jg), .long (cs_L zc 0 jg)])), (cs_X zc 0 11, .inr (9, [.int ((31 * ((31 * (cs_i zc 1)) + 2)) + 1)]))] H := hP.sub [0, 1, 2, 3] rfl
      have hD9 : va_D (va_A [cTP zc, cR7 cA zc, cGaK zc jg 1, cTr zc] s.heap.size) [cTP zc, cR7 cA zc, (cs_X zc 2 jg, .inr (1, [.int (nI jg), .int (cs_I zc 21 jg), .int (cs_I zc 22 jg), .long (cs_L zc 0 jg)])), (cs_X zc 0 11, .inr (9, [.int ((31 * ((31 * (cs_i zc 1)) + 2)) + 1)]))] := hD.sub [0, 1, 2, 3] (by decide) rfl
      have hlf := lf_tell_1 cA zc jg hjg hk hI
      exact W.iret (v := 10 + (cs_I zc 21 jg)) hx hb hr (fun t ht hW => have hJ := kjoin hPk hDk hks rfl (hS.F ht) (by rw [ht]; exact hP9) hD9 hlf.2.1 hlf.2.2; ⟨⟨10 + (cs_I zc 21 jg), (va_up (cs_i zc) 1 ((31 * ((31 * (cs_i zc 1)) + 2)) + 1), cs_n zc, cs_I zc, cs_L zc, cs_N zc, cs_S zc, cs_X zc), rfl, ⟨⟨hlf.1, rfl⟩, (Or.inr (Or.inl ⟨jg, rfl, hjg, hk, rfl, rfl⟩))⟩, hJ.1, va_K.moved hW.alike hKk, hJ.2.1⟩, hJ.2.2⟩) (fun q h => kAll_A hks _ (hS.2.2 q h)) dX10_tell_22
    · skip
      have hks : kAll (cF cA zc) [(0, 0), (0, 7), (2, jg), (0, 11)] [cTP zc, cR7 cA zc, cGaK zc jg 2, cTr zc] := ⟨(kF_tp (cA := cA) (z := zc)), (kF_r7 (cA := cA) (z := zc)), (kF_gaK (z := zc) (j := jg) hjg hk), (kF_tr (cA := cA) (z := zc)), trivial⟩
      have hP : va_P (dC, dI) vwCl [cTP zc, cR7 cA zc, cGaK zc jg 2, cTr zc] s.heap := kAll_P hPk hks
      have hD : va_D (va_A [cTP zc, cR7 cA zc, cGaK zc jg 2, cTr zc] s.heap.size) [cTP zc, cR7 cA zc, cGaK zc jg 2, cTr zc] := (kAll_D hDk hks (by simp)).self
      have hA : ∀ q : Nat, s.heap.size ≤ q → va_A [cTP zc, cR7 cA zc, cGaK zc jg 2, cTr zc] s.heap.size q := fun q h => Or.inr h
      have hS : va_S (va_A [cTP zc, cR7 cA zc, cGaK zc jg 2, cTr zc] s.heap.size) s.heap s.heap [] := va_S.rf
      refine lv_aload_n hx hb dX10_tell_0 rfl (lv_at hl 0 rfl) ?_
      refine lv_iload_n hx hb dX10_tell_1 rfl (lv_at hl 1 rfl) ?_
      have hPc := hP.sub (ws' := [cTP zc, cR7 cA zc]) [0, 1] rfl
      have hDc := hD.sub (ws' := [cTP zc, cR7 cA zc]) [0, 1] (by decide) rfl
      have hKc := hK.sub (tys' := [(cA 2, .object RX2)]) [2] rfl
      refine va_csq (va_Run.run (va_runV (As := [.int (nI jg)]) (rest := []) ⟨hx, hb, hml, hown, hts⟩ (s_gangAt_yes l dC dI (cA 2) _ (cs_X zc 0 0) (.ref (cs_X zc 0 1)) (.ref (cs_X zc 0 6)) (.ref (cs_X zc 0 8)) (.ref (cs_X zc 0 9)) (.ref (cs_X zc 0 10)) (.ref (cs_X zc 0 11)) (.int (nI (cs_n zc 0))) (.int (nI (cs_n zc 2))) (.int (nI (cs_n zc 3))) (va_rf (opN (cs_n zc 4) (fun _ => cs_X zc 5 0))) (.int (cs_i zc 2)) (cs_X zc 0 7) jg (cs_n zc 1) (cs_X zc 2 jg) (rfN (cs_n zc 1) (cs_X zc 2)) hjg (by omega) (rfN_at hjg)) (cwV 1 hts gX10_tell_X10_gangAt rfl rfl rfl (by decide +kernel) ⟨Nat.le_of_ble_eq_true rfl, Nat.le_of_ble_eq_true rfl⟩) (pw_preV (va_recv hKc hPc (ci := 10) (q0 := 0) rfl rfl) hPc hKc hDc hN) rfl rfl hl.1 rfl (lv_room (Nat.le_of_ble_eq_true rfl)) dX10_tell_2 ⟨Nat.le_of_ble_eq_true rfl, Nat.le_of_ble_eq_true rfl⟩)) (fun r4 hr4 => ?_)
      have hr4 : r4 = some (cs_X zc 2 jg) := hr4
      subst hr4
      refine W.eq (g2 := F0 m 5 ls [.ref (cs_X zc 2 jg)]) rfl ?_
      refine lv_astore_n (lv' := [(2, .ref (cs_X zc 2 jg)), (0, .ref (cs_X zc 0 0)), (1, .int (nI jg))]) hx hb dX10_tell_5 rfl hl (by decide) rfl (fun ls hl => ?_)
      refine lv_aload_n hx hb dX10_tell_6 rfl (lv_at hl 0 rfl) ?_
      refine lv_ifnonnull (tgt := 14) hx hb dX10_tell_7 (by decide) ?_
      refine lv_aload_n hx hb dX10_tell_14 rfl (lv_at hl 0 rfl) ?_
      refine lv_aload_n hx hb dX10_tell_15 rfl (lv_at hl 1 rfl) ?_
      refine va_get (D := (dC, dI)) (ci := 10) (v := .ref (cs_X zc 0 11)) (C := RX10) (T := TX10) (N := 13) hx hb hts hiX10 hown hK hP 0 rfl rfl 6 (by decide) (hts (.fieldLink RX10 52 "TributePitches" "steps" "LTributePitches$Trace;") (List.mem_of_getElem? (i := 1) rfl)) (fun _ h9 => h9) rfl dX10_tell_16 ?_
      have hPc := hP.sub (ws' := [cGaK zc jg 2, cTr zc]) [2, 3] rfl
      have hDc := hD.sub (ws' := [cGaK zc jg 2, cTr zc]) [2, 3] (by decide) rfl
      have hKc := hK.sub (tys' := []) [] rfl
      have hFc := va_free (wc := [cGaK zc jg 2, cTr zc]) hD hS hA [2, 3] rfl
      refine va_calli (va_runV (As := [.ref (cs_X zc 0 11)]) (rest := []) ⟨hx, hb, hml, hown, hts⟩ (s_tell_2 l dC dI  _ (cs_X zc 2 jg) (nI jg) (cs_I zc 21 jg) (cs_I zc 22 jg) (cs_L zc 0 jg) (cs_X zc 0 11) (cs_i zc 1) ) (cwV 1 hts gX10_tell_X2_telling rfl rfl rfl (by decide +kernel) ⟨Nat.le_of_ble_eq_true rfl, Nat.le_of_ble_eq_true rfl⟩) (pw_preV (va_recv hKc hPc (ci := 2) (q0 := 0) rfl rfl) hPc hKc hDc hN) rfl rfl hl.1 rfl (lv_room (Nat.le_of_ble_eq_true rfl)) dX10_tell_19 ⟨Nat.le_of_ble_eq_true rfl, Nat.le_of_ble_eq_true rfl⟩) hS (fun q _ h => hFc q h) hFc (fun r5 u t H1 locs ht hvm hw hB hz1 hk1 hS => ?_)
      have hr5 : r5 = (cs_I zc 21 jg) := hw
      obtain ⟨hP1, hK1, hD1⟩ := hB
      rw [ht] at hP1
      obtain ⟨hP, hD⟩ := va_join (wr := [cTP zc, cR7 cA zc]) (w1 := [(cs_X zc 2 jg, .inr (2, [.int (nI jg), .int (cs_I zc 21 jg), .int (cs_I zc 22 jg), .long (cs_L zc 0 jg)])), (cs_X zc 0 11, .inr (9, [.int ((31 * (cs_i zc 1)) + 1)]))]) hP hD [2, 3] [0, 1] rfl rfl (by decide) (by decide) hk1 hFc hP1 hD1
      generalize H1 = H at hP hS ⊢
      have hP : va_P (dC, dI) vwCl [cTP zc, cR7 cA zc, (cs_X zc 2 jg, .inr (2, [.int (nI jg), .int (cs_I zc 21 jg), .int (cs_I zc 22 jg), .long (cs_L zc 0 jg)])), (cs_X zc 0 11, .inr (9, [.int ((31 * (cs_i zc 1)) + 1)]))] H := hP
      have hD : va_D _ [cTP zc, cR7 cA zc, (cs_X zc 2 jg, .inr (2, [.int (nI jg), .int (cs_I zc 21 jg), .int (cs_I zc 22 jg), .long (cs_L zc 0 jg)])), (cs_X zc 0 11, .inr (9, [.int ((31 * (cs_i zc 1)) + 1)]))] := hD
      have hr5 := hr5.symm
      subst hr5
      refine W.eq (g2 := F0 m 22 ls [.int (cs_I zc 21 jg)]) rfl ?_
      subst hQ
      have hP9 : va_P (dC, dI) vwCl [cTP zc, cR7 cA zc, (cs_X zc 2 jg, .inr (2, [.int (nI jg), .int (cs_I zc 21 jg), .int (cs_I zc 22 jg), .long (cs_L zc 0 jg)])), (cs_X zc 0 11, .inr (9, [.int ((31 * (cs_i zc 1)) + 1)]))] H := hP.sub [0, 1, 2, 3] rfl
      have hD9 : va_D (va_A [cTP zc, cR7 cA zc, cGaK zc jg 2, cTr zc] s.heap.size) [cTP zc, cR7 cA zc, (cs_X zc 2 jg, .inr (2, [.int (nI jg), .int (cs_I zc 21 jg), .int (cs_I zc 22 jg), .long (cs_L zc 0 jg)])), (cs_X zc 0 11, .inr (9, [.int ((31 * (cs_i zc 1)) + 1)]))] := hD.sub [0, 1, 2, 3] (by decide) rfl
      have hlf := lf_tell_2 cA zc jg hjg hk hI
      exact W.iret (v := (cs_I zc 21 jg)) hx hb hr (fun t ht hW => have hJ := kjoin hPk hDk hks rfl (hS.F ht) (by rw [ht]; exact hP9) hD9 hlf.2.1 hlf.2.2; ⟨⟨(cs_I zc 21 jg), (va_up (cs_i zc) 1 ((31 * (cs_i zc 1)) + 1), cs_n zc, cs_I zc, cs_L zc, cs_N zc, cs_S zc, cs_X zc), rfl, ⟨⟨hlf.1, rfl⟩, (Or.inr (Or.inr (Or.inl ⟨jg, rfl, hjg, hk, rfl, rfl⟩)))⟩, hJ.1, va_K.moved hW.alike hKk, hJ.2.1⟩, hJ.2.2⟩) (fun q h => kAll_A hks _ (hS.2.2 q h)) dX10_tell_22
    · skip
      have hks : kAll (cF cA zc) [(0, 0), (0, 7), (2, jg), (0, 11)] [cTP zc, cR7 cA zc, cGaK zc jg 4, cTr zc] := ⟨(kF_tp (cA := cA) (z := zc)), (kF_r7 (cA := cA) (z := zc)), (kF_gaK (z := zc) (j := jg) hjg hk), (kF_tr (cA := cA) (z := zc)), trivial⟩
      have hP : va_P (dC, dI) vwCl [cTP zc, cR7 cA zc, cGaK zc jg 4, cTr zc] s.heap := kAll_P hPk hks
      have hD : va_D (va_A [cTP zc, cR7 cA zc, cGaK zc jg 4, cTr zc] s.heap.size) [cTP zc, cR7 cA zc, cGaK zc jg 4, cTr zc] := (kAll_D hDk hks (by simp)).self
      have hA : ∀ q : Nat, s.heap.size ≤ q → va_A [cTP zc, cR7 cA zc, cGaK zc jg 4, cTr zc] s.heap.size q := fun q h => Or.inr h
      have hS : va_S (va_A [cTP zc, cR7 cA zc, cGaK zc jg 4, cTr zc] s.heap.size) s.heap s.heap [] := va_S.rf
      refine lv_aload_n hx hb dX10_tell_0 rfl (lv_at hl 0 rfl) ?_
      refine lv_iload_n hx hb dX10_tell_1 rfl (lv_at hl 1 rfl) ?_
      have hPc := hP.sub (ws' := [cTP zc, cR7 cA zc]) [0, 1] rfl
      have hDc := hD.sub (ws' := [cTP zc, cR7 cA zc]) [0, 1] (by decide) rfl
      have hKc := hK.sub (tys' := [(cA 2, .object RX2)]) [2] rfl
      refine va_csq (va_Run.run (va_runV (As := [.int (nI jg)]) (rest := []) ⟨hx, hb, hml, hown, hts⟩ (s_gangAt_yes l dC dI (cA 2) _ (cs_X zc 0 0) (.ref (cs_X zc 0 1)) (.ref (cs_X zc 0 6)) (.ref (cs_X zc 0 8)) (.ref (cs_X zc 0 9)) (.ref (cs_X zc 0 10)) (.ref (cs_X zc 0 11)) (.int (nI (cs_n zc 0))) (.int (nI (cs_n zc 2))) (.int (nI (cs_n zc 3))) (va_rf (opN (cs_n zc 4) (fun _ => cs_X zc 5 0))) (.int (cs_i zc 2)) (cs_X zc 0 7) jg (cs_n zc 1) (cs_X zc 2 jg) (rfN (cs_n zc 1) (cs_X zc 2)) hjg (by omega) (rfN_at hjg)) (cwV 1 hts gX10_tell_X10_gangAt rfl rfl rfl (by decide +kernel) ⟨Nat.le_of_ble_eq_true rfl, Nat.le_of_ble_eq_true rfl⟩) (pw_preV (va_recv hKc hPc (ci := 10) (q0 := 0) rfl rfl) hPc hKc hDc hN) rfl rfl hl.1 rfl (lv_room (Nat.le_of_ble_eq_true rfl)) dX10_tell_2 ⟨Nat.le_of_ble_eq_true rfl, Nat.le_of_ble_eq_true rfl⟩)) (fun r6 hr6 => ?_)
      have hr6 : r6 = some (cs_X zc 2 jg) := hr6
      subst hr6
      refine W.eq (g2 := F0 m 5 ls [.ref (cs_X zc 2 jg)]) rfl ?_
      refine lv_astore_n (lv' := [(2, .ref (cs_X zc 2 jg)), (0, .ref (cs_X zc 0 0)), (1, .int (nI jg))]) hx hb dX10_tell_5 rfl hl (by decide) rfl (fun ls hl => ?_)
      refine lv_aload_n hx hb dX10_tell_6 rfl (lv_at hl 0 rfl) ?_
      refine lv_ifnonnull (tgt := 14) hx hb dX10_tell_7 (by decide) ?_
      refine lv_aload_n hx hb dX10_tell_14 rfl (lv_at hl 0 rfl) ?_
      refine lv_aload_n hx hb dX10_tell_15 rfl (lv_at hl 1 rfl) ?_
      refine va_get (D := (dC, dI)) (ci := 10) (v := .ref (cs_X zc 0 11)) (C := RX10) (T := TX10) (N := 13) hx hb hts hiX10 hown hK hP 0 rfl rfl 6 (by decide) (hts (.fieldLink RX10 52 "TributePitches" "steps" "LTributePitches$Trace;") (List.mem_of_getElem? (i := 1) rfl)) (fun _ h9 => h9) rfl dX10_tell_16 ?_
      have hPc := hP.sub (ws' := [cGaK zc jg 4, cTr zc]) [2, 3] rfl
      have hDc := hD.sub (ws' := [cGaK zc jg 4, cTr zc]) [2, 3] (by decide) rfl
      have hKc := hK.sub (tys' := []) [] rfl
      have hFc := va_free (wc := [cGaK zc jg 4, cTr zc]) hD hS hA [2, 3] rfl
      refine va_calli (va_runU (As := [.ref (cs_X zc 0 11)]) (rest := []) ⟨hx, hb, hml, hown, hts⟩ (s_tell_4 l dC dI  _ (cs_X zc 2 jg) (nI jg) (cs_I zc 21 jg) (cs_I zc 22 jg) (cs_L zc 0 jg) (cs_X zc 0 11) (cs_i zc 1) ) (va_cwO 1 hts gX10_tell_X4_telling_u304X4 rfl rfl rfl (b0 := cX2_telling) (m0 := 2) (r0 := (some .int)) (by decide +kernel) (by decide +kernel) ⟨Nat.le_of_ble_eq_true rfl, Nat.le_of_ble_eq_true rfl⟩) (pw_preV (va_recv hKc hPc (ci := 4) (q0 := 0) rfl rfl) hPc hKc hDc hN) rfl rfl hl.1 rfl (lv_room (Nat.le_of_ble_eq_true rfl)) dX10_tell_19 ⟨Nat.le_of_ble_eq_true rfl, Nat.le_of_ble_eq_true rfl⟩) hS (fun q _ h => hFc q h) hFc (fun r7 u t H1 locs ht hvm hw hB hz1 hk1 hS => ?_)
      have hr7 : r7 = 3 * (cs_I zc 21 jg) := hw
      obtain ⟨hP1, hK1, hD1⟩ := hB
      rw [ht] at hP1
      obtain ⟨hP, hD⟩ := va_join (wr := [cTP zc, cR7 cA zc]) (w1 := [(cs_X zc 2 jg, .inr (4, [.int (nI jg), .int (cs_I zc 21 jg), .int (cs_I zc 22 jg), .long (cs_L zc 0 jg)])), (cs_X zc 0 11, .inr (9, [.int ((31 * ((31 * (cs_i zc 1)) + 3)) + 1)]))]) hP hD [2, 3] [0, 1] rfl rfl (by decide) (by decide) hk1 hFc hP1 hD1
      generalize H1 = H at hP hS ⊢
      have hP : va_P (dC, dI) vwCl [cTP zc, cR7 cA zc, (cs_X zc 2 jg, .inr (4, [.int (nI jg), .int (cs_I zc 21 jg), .int (cs_I zc 22 jg), .long (cs_L zc 0 jg)])), (cs_X zc 0 11, .inr (9, [.int ((31 * ((31 * (cs_i zc 1)) + 3)) + 1)]))] H := hP
      have hD : va_D _ [cTP zc, cR7 cA zc, (cs_X zc 2 jg, .inr (4, [.int (nI jg), .int (cs_I zc 21 jg), .int (cs_I zc 22 jg), .long (cs_L zc 0 jg)])), (cs_X zc 0 11, .inr (9, [.int ((31 * ((31 * (cs_i zc 1)) + 3)) + 1)]))] := hD
      have hr7 := hr7.symm
      subst hr7
      refine W.eq (g2 := F0 m 22 ls [.int (3 * (cs_I zc 21 jg))]) rfl ?_
      subst hQ
      have hP9 : va_P (dC, dI) vwCl [cTP zc, cR7 cA zc, (cs_X zc 2 jg, .inr (4, [.int (nI jg), .int (cs_I zc 21 jg), .int (cs_I zc 22 jg), .long (cs_L zc 0 jg)])), (cs_X zc 0 11, .inr (9, [.int ((31 * ((31 * (cs_i zc 1)) + 3)) + 1)]))] H := hP.sub [0, 1, 2, 3] rfl
      have hD9 : va_D (va_A [cTP zc, cR7 cA zc, cGaK zc jg 4, cTr zc] s.heap.size) [cTP zc, cR7 cA zc, (cs_X zc 2 jg, .inr (4, [.int (nI jg), .int (cs_I zc 21 jg), .int (cs_I zc 22 jg), .long (cs_L zc 0 jg)])), (cs_X zc 0 11, .inr (9, [.int ((31 * ((31 * (cs_i zc 1)) + 3)) + 1)]))] := hD.sub [0, 1, 2, 3] (by decide) rfl
      have hlf := lf_tell_3 cA zc jg hjg hk hI
      exact W.iret (v := 3 * (cs_I zc 21 jg)) hx hb hr (fun t ht hW => have hJ := kjoin hPk hDk hks rfl (hS.F ht) (by rw [ht]; exact hP9) hD9 hlf.2.1 hlf.2.2; ⟨⟨3 * (cs_I zc 21 jg), (va_up (cs_i zc) 1 ((31 * ((31 * (cs_i zc 1)) + 3)) + 1), cs_n zc, cs_I zc, cs_L zc, cs_N zc, cs_S zc, cs_X zc), rfl, ⟨⟨hlf.1, rfl⟩, (Or.inr (Or.inr (Or.inr ⟨jg, rfl, hjg, hk, rfl, rfl⟩)))⟩, hJ.1, va_K.moved hW.alike hKk, hJ.2.1⟩, hJ.2.2⟩) (fun q h => kAll_A hks _ (hS.2.2 q h)) dX10_tell_22
def pC_greet (zc : CS) (g : Int32) (r : Int32) (u : CS) : Prop :=
  ((∀ j, j < cs_n zc 1 → g ≠ nI j) ∧ r = ((-1)) ∧ u = zc) ∨
  (∃ jg : Nat, g = nI jg ∧ (jg < cs_n zc 1) ∧ (cs_N zc 1 jg = 1) ∧ r = (6) ∧ u = (va_up (cs_i zc) 1 ((31 * (cs_i zc 1)) + 5), cs_n zc, cs_I zc, cs_L zc, cs_N zc, cs_S zc, cs_X zc)) ∨
  (∃ jg : Nat, g = nI jg ∧ (jg < cs_n zc 1) ∧ (cs_N zc 1 jg = 2) ∧ r = (10 * (nI jg)) ∧ u = (va_up (cs_i zc) 1 ((31 * (cs_i zc 1)) + 4), cs_n zc, cs_I zc, cs_L zc, cs_N zc, cs_S zc, cs_X zc)) ∨
  (∃ jg : Nat, g = nI jg ∧ (jg < cs_n zc 1) ∧ (cs_N zc 1 jg = 4) ∧ r = (7) ∧ u = (va_up (cs_i zc) 1 ((31 * ((31 * (cs_i zc 1)) + 6)) + 5), cs_n zc, cs_I zc, cs_L zc, cs_N zc, cs_S zc, cs_X zc))
set_option maxHeartbeats 4000000 in
theorem lf_greet_1 (cA : Nat → ClassId) (zc : CS) (jg : Nat) (hjg : jg < cs_n zc 1) (hk : cs_N zc 1 jg = 1) (hI : invC zc) : invC (va_up (cs_i zc) 1 ((31 * (cs_i zc 1)) + 5), cs_n zc, cs_I zc, cs_L zc, cs_N zc, cs_S zc, cs_X zc) ∧ kAll (cF cA (va_up (cs_i zc) 1 ((31 * (cs_i zc 1)) + 5), cs_n zc, cs_I zc, cs_L zc, cs_N zc, cs_S zc, cs_X zc)) [(0, 0), (0, 7), (2, jg), (0, 11)] [cTP zc, cR7 cA zc, (cs_X zc 2 jg, .inr (1, [.int (nI jg), .int (cs_I zc 21 jg), .int (cs_I zc 22 jg), .long (cs_L zc 0 jg)])), (cs_X zc 0 11, .inr (9, [.int ((31 * (cs_i zc 1)) + 5)]))] ∧ ∀ i j, (i, j) ∉ ([(0, 0), (0, 7), (2, jg), (0, 11)] : List (Nat × Nat)) → cF cA (va_up (cs_i zc) 1 ((31 * (cs_i zc 1)) + 5), cs_n zc, cs_I zc, cs_L zc, cs_N zc, cs_S zc, cs_X zc) i j = none ∨ ((i, j) ∉ ([(0, 0), (0, 7), (2, jg), (0, 11)] : List (Nat × Nat)) ∧ cF cA (va_up (cs_i zc) 1 ((31 * (cs_i zc 1)) + 5), cs_n zc, cs_I zc, cs_L zc, cs_N zc, cs_S zc, cs_X zc) i j = cF cA zc i j) := by
  obtain ⟨⟨hn0, hn1, hn2, hn3, hn4, hn5⟩, hpi, hgk, htk, hpk, hsh⟩ := id hI
  refine ⟨hI, ⟨(by (rw [(kF_tp (cA := cA) (z := (va_up (cs_i zc) 1 ((31 * (cs_i zc 1)) + 5), cs_n zc, cs_I zc, cs_L zc, cs_N zc, cs_S zc, cs_X zc)))]) <;> simp [cTP, cTPN, cTPA, cLo, cA2, cA3, cA4, cA5, cR6, cR7, cR8, cR9, cR10, cTr, cPi, cPiN, cPiT, cGa, cGaK, cTa, cPa, cAu, cAuN, cAuB, cSh, cSc, cs_i, cs_n, cs_I, cs_L, cs_N, cs_S, cs_X, va_up, upd, opN]), (by (rw [(kF_r7 (cA := cA) (z := (va_up (cs_i zc) 1 ((31 * (cs_i zc 1)) + 5), cs_n zc, cs_I zc, cs_L zc, cs_N zc, cs_S zc, cs_X zc)))]) <;> simp [cTP, cTPN, cTPA, cLo, cA2, cA3, cA4, cA5, cR6, cR7, cR8, cR9, cR10, cTr, cPi, cPiN, cPiT, cGa, cGaK, cTa, cPa, cAu, cAuN, cAuB, cSh, cSc, cs_i, cs_n, cs_I, cs_L, cs_N, cs_S, cs_X, va_up, upd, opN]), (by (rw [(kF_gaK (z := (va_up (cs_i zc) 1 ((31 * (cs_i zc 1)) + 5), cs_n zc, cs_I zc, cs_L zc, cs_N zc, cs_S zc, cs_X zc)) (j := jg) hjg hk)]) <;> simp [cTP, cTPN, cTPA, cLo, cA2, cA3, cA4, cA5, cR6, cR7, cR8, cR9, cR10, cTr, cPi, cPiN, cPiT, cGa, cGaK, cTa, cPa, cAu, cAuN, cAuB, cSh, cSc, cs_i, cs_n, cs_I, cs_L, cs_N, cs_S, cs_X, va_up, upd, opN]), (by (rw [(kF_tr (cA := cA) (z := (va_up (cs_i zc) 1 ((31 * (cs_i zc 1)) + 5), cs_n zc, cs_I zc, cs_L zc, cs_N zc, cs_S zc, cs_X zc)))]) <;> simp [cTP, cTPN, cTPA, cLo, cA2, cA3, cA4, cA5, cR6, cR7, cR8, cR9, cR10, cTr, cPi, cPiN, cPiT, cGa, cGaK, cTa, cPa, cAu, cAuN, cAuB, cSh, cSc, cs_i, cs_n, cs_I, cs_L, cs_N, cs_S, cs_X, va_up, upd, opN]), trivial⟩, ?_⟩
  intro i j hij
  refine Or.inr ⟨hij, ?_⟩
  rcases i with _ | _ | _ | _ | _ | _ | _ | _ | i
  · rcases j with _ | _ | _ | _ | _ | _ | _ | _ | _ | _ | _ | _ | j
    · exact absurd (by simp) hij
    · show some (cLo (va_up (cs_i zc) 1 ((31 * (cs_i zc 1)) + 5), cs_n zc, cs_I zc, cs_L zc, cs_N zc, cs_S zc, cs_X zc)) = some (cLo zc); simp [cLo, cs_i, cs_n, cs_I, cs_L, cs_N, cs_S, cs_X, va_up]
    · show some (cA2 cA (va_up (cs_i zc) 1 ((31 * (cs_i zc 1)) + 5), cs_n zc, cs_I zc, cs_L zc, cs_N zc, cs_S zc, cs_X zc)) = some (cA2 cA zc); simp [cA2, cs_i, cs_n, cs_I, cs_L, cs_N, cs_S, cs_X, va_up]
    · show some (cA3 cA (va_up (cs_i zc) 1 ((31 * (cs_i zc 1)) + 5), cs_n zc, cs_I zc, cs_L zc, cs_N zc, cs_S zc, cs_X zc)) = some (cA3 cA zc); simp [cA3, cs_i, cs_n, cs_I, cs_L, cs_N, cs_S, cs_X, va_up]
    · show some (cA4 cA (va_up (cs_i zc) 1 ((31 * (cs_i zc 1)) + 5), cs_n zc, cs_I zc, cs_L zc, cs_N zc, cs_S zc, cs_X zc)) = some (cA4 cA zc); simp [cA4, cs_i, cs_n, cs_I, cs_L, cs_N, cs_S, cs_X, va_up]
    · show some (cA5 cA (va_up (cs_i zc) 1 ((31 * (cs_i zc 1)) + 5), cs_n zc, cs_I zc, cs_L zc, cs_N zc, cs_S zc, cs_X zc)) = some (cA5 cA zc); simp [cA5, cs_i, cs_n, cs_I, cs_L, cs_N, cs_S, cs_X, va_up]
    · show some (cR6 cA (va_up (cs_i zc) 1 ((31 * (cs_i zc 1)) + 5), cs_n zc, cs_I zc, cs_L zc, cs_N zc, cs_S zc, cs_X zc)) = some (cR6 cA zc); simp [cR6, cs_i, cs_n, cs_I, cs_L, cs_N, cs_S, cs_X, va_up]
    · exact absurd (by simp) hij
    · show some (cR8 cA (va_up (cs_i zc) 1 ((31 * (cs_i zc 1)) + 5), cs_n zc, cs_I zc, cs_L zc, cs_N zc, cs_S zc, cs_X zc)) = some (cR8 cA zc); simp [cR8, cs_i, cs_n, cs_I, cs_L, cs_N, cs_S, cs_X, va_up]
    · show some (cR9 cA (va_up (cs_i zc) 1 ((31 * (cs_i zc 1)) + 5), cs_n zc, cs_I zc, cs_L zc, cs_N zc, cs_S zc, cs_X zc)) = some (cR9 cA zc); simp [cR9, cs_i, cs_n, cs_I, cs_L, cs_N, cs_S, cs_X, va_up]
    · show some (cR10 cA (va_up (cs_i zc) 1 ((31 * (cs_i zc 1)) + 5), cs_n zc, cs_I zc, cs_L zc, cs_N zc, cs_S zc, cs_X zc)) = some (cR10 cA zc); simp [cR10, cs_i, cs_n, cs_I, cs_L, cs_N, cs_S, cs_X, va_up]
    · exact absurd (by simp) hij
    · show (none : Option (Nat × va_E)) = none; rfl
  · show (if j < cs_n (va_up (cs_i zc) 1 ((31 * (cs_i zc 1)) + 5), cs_n zc, cs_I zc, cs_L zc, cs_N zc, cs_S zc, cs_X zc) 0 then some (cPi (va_up (cs_i zc) 1 ((31 * (cs_i zc 1)) + 5), cs_n zc, cs_I zc, cs_L zc, cs_N zc, cs_S zc, cs_X zc) j) else none) = if j < cs_n zc 0 then some (cPi zc j) else none
    simp [cPi, cs_i, cs_n, cs_I, cs_L, cs_N, cs_S, cs_X, va_up]
  · show (if j < cs_n (va_up (cs_i zc) 1 ((31 * (cs_i zc 1)) + 5), cs_n zc, cs_I zc, cs_L zc, cs_N zc, cs_S zc, cs_X zc) 1 then some (cGa (va_up (cs_i zc) 1 ((31 * (cs_i zc 1)) + 5), cs_n zc, cs_I zc, cs_L zc, cs_N zc, cs_S zc, cs_X zc) j) else none) = if j < cs_n zc 1 then some (cGa zc j) else none
    simp [cGa, cs_i, cs_n, cs_I, cs_L, cs_N, cs_S, cs_X, va_up]
  · show (if j < cs_n (va_up (cs_i zc) 1 ((31 * (cs_i zc 1)) + 5), cs_n zc, cs_I zc, cs_L zc, cs_N zc, cs_S zc, cs_X zc) 2 then some (cTa (va_up (cs_i zc) 1 ((31 * (cs_i zc 1)) + 5), cs_n zc, cs_I zc, cs_L zc, cs_N zc, cs_S zc, cs_X zc) j) else none) = if j < cs_n zc 2 then some (cTa zc j) else none
    simp [cTa, cs_i, cs_n, cs_I, cs_L, cs_N, cs_S, cs_X, va_up]
  · show (if j < cs_n (va_up (cs_i zc) 1 ((31 * (cs_i zc 1)) + 5), cs_n zc, cs_I zc, cs_L zc, cs_N zc, cs_S zc, cs_X zc) 3 then some (cPa (va_up (cs_i zc) 1 ((31 * (cs_i zc 1)) + 5), cs_n zc, cs_I zc, cs_L zc, cs_N zc, cs_S zc, cs_X zc) j) else none) = if j < cs_n zc 3 then some (cPa zc j) else none
    simp [cPa, cs_i, cs_n, cs_I, cs_L, cs_N, cs_S, cs_X, va_up]
  · show (if j = 0 ∧ ¬ cs_n (va_up (cs_i zc) 1 ((31 * (cs_i zc 1)) + 5), cs_n zc, cs_I zc, cs_L zc, cs_N zc, cs_S zc, cs_X zc) 4 = 0 then some (cAu (va_up (cs_i zc) 1 ((31 * (cs_i zc 1)) + 5), cs_n zc, cs_I zc, cs_L zc, cs_N zc, cs_S zc, cs_X zc)) else none) = if j = 0 ∧ ¬ cs_n zc 4 = 0 then some (cAu zc) else none
    simp [cAu, cs_i, cs_n, cs_I, cs_L, cs_N, cs_S, cs_X, va_up]
  · show (if j < 4 then some (cSh (va_up (cs_i zc) 1 ((31 * (cs_i zc 1)) + 5), cs_n zc, cs_I zc, cs_L zc, cs_N zc, cs_S zc, cs_X zc) j) else none) = if j < 4 then some (cSh zc j) else none
    simp [cSh, cs_i, cs_n, cs_I, cs_L, cs_N, cs_S, cs_X, va_up]
  · show (if j < 4 then some (cSc cA (va_up (cs_i zc) 1 ((31 * (cs_i zc 1)) + 5), cs_n zc, cs_I zc, cs_L zc, cs_N zc, cs_S zc, cs_X zc) j) else none) = if j < 4 then some (cSc cA zc j) else none
    simp [cSc, cs_i, cs_n, cs_I, cs_L, cs_N, cs_S, cs_X, va_up]
  · show (none : Option (Nat × va_E)) = none; rfl
set_option maxHeartbeats 4000000 in
theorem lf_greet_2 (cA : Nat → ClassId) (zc : CS) (jg : Nat) (hjg : jg < cs_n zc 1) (hk : cs_N zc 1 jg = 2) (hI : invC zc) : invC (va_up (cs_i zc) 1 ((31 * (cs_i zc 1)) + 4), cs_n zc, cs_I zc, cs_L zc, cs_N zc, cs_S zc, cs_X zc) ∧ kAll (cF cA (va_up (cs_i zc) 1 ((31 * (cs_i zc 1)) + 4), cs_n zc, cs_I zc, cs_L zc, cs_N zc, cs_S zc, cs_X zc)) [(0, 0), (0, 7), (2, jg), (0, 11)] [cTP zc, cR7 cA zc, (cs_X zc 2 jg, .inr (2, [.int (nI jg), .int (cs_I zc 21 jg), .int (cs_I zc 22 jg), .long (cs_L zc 0 jg)])), (cs_X zc 0 11, .inr (9, [.int ((31 * (cs_i zc 1)) + 4)]))] ∧ ∀ i j, (i, j) ∉ ([(0, 0), (0, 7), (2, jg), (0, 11)] : List (Nat × Nat)) → cF cA (va_up (cs_i zc) 1 ((31 * (cs_i zc 1)) + 4), cs_n zc, cs_I zc, cs_L zc, cs_N zc, cs_S zc, cs_X zc) i j = none ∨ ((i, j) ∉ ([(0, 0), (0, 7), (2, jg), (0, 11)] : List (Nat × Nat)) ∧ cF cA (va_up (cs_i zc) 1 ((31 * (cs_i zc 1)) + 4), cs_n zc, cs_I zc, cs_L zc, cs_N zc, cs_S zc, cs_X zc) i j = cF cA zc i j) := by
  obtain ⟨⟨hn0, hn1, hn2, hn3, hn4, hn5⟩, hpi, hgk, htk, hpk, hsh⟩ := id hI
  refine ⟨hI, ⟨(by (rw [(kF_tp (cA := cA) (z := (va_up (cs_i zc) 1 ((31 * (cs_i zc 1)) + 4), cs_n zc, cs_I zc, cs_L zc, cs_N zc, cs_S zc, cs_X zc)))]) <;> simp [cTP, cTPN, cTPA, cLo, cA2, cA3, cA4, cA5, cR6, cR7, cR8, cR9, cR10, cTr, cPi, cPiN, cPiT, cGa, cGaK, cTa, cPa, cAu, cAuN, cAuB, cSh, cSc, cs_i, cs_n, cs_I, cs_L, cs_N, cs_S, cs_X, va_up, upd, opN]), (by (rw [(kF_r7 (cA := cA) (z := (va_up (cs_i zc) 1 ((31 * (cs_i zc 1)) + 4), cs_n zc, cs_I zc, cs_L zc, cs_N zc, cs_S zc, cs_X zc)))]) <;> simp [cTP, cTPN, cTPA, cLo, cA2, cA3, cA4, cA5, cR6, cR7, cR8, cR9, cR10, cTr, cPi, cPiN, cPiT, cGa, cGaK, cTa, cPa, cAu, cAuN, cAuB, cSh, cSc, cs_i, cs_n, cs_I, cs_L, cs_N, cs_S, cs_X, va_up, upd, opN]), (by (rw [(kF_gaK (z := (va_up (cs_i zc) 1 ((31 * (cs_i zc 1)) + 4), cs_n zc, cs_I zc, cs_L zc, cs_N zc, cs_S zc, cs_X zc)) (j := jg) hjg hk)]) <;> simp [cTP, cTPN, cTPA, cLo, cA2, cA3, cA4, cA5, cR6, cR7, cR8, cR9, cR10, cTr, cPi, cPiN, cPiT, cGa, cGaK, cTa, cPa, cAu, cAuN, cAuB, cSh, cSc, cs_i, cs_n, cs_I, cs_L, cs_N, cs_S, cs_X, va_up, upd, opN]), (by (rw [(kF_tr (cA := cA) (z := (va_up (cs_i zc) 1 ((31 * (cs_i zc 1)) + 4), cs_n zc, cs_I zc, cs_L zc, cs_N zc, cs_S zc, cs_X zc)))]) <;> simp [cTP, cTPN, cTPA, cLo, cA2, cA3, cA4, cA5, cR6, cR7, cR8, cR9, cR10, cTr, cPi, cPiN, cPiT, cGa, cGaK, cTa, cPa, cAu, cAuN, cAuB, cSh, cSc, cs_i, cs_n, cs_I, cs_L, cs_N, cs_S, cs_X, va_up, upd, opN]), trivial⟩, ?_⟩
  intro i j hij
  refine Or.inr ⟨hij, ?_⟩
  rcases i with _ | _ | _ | _ | _ | _ | _ | _ | i
  · rcases j with _ | _ | _ | _ | _ | _ | _ | _ | _ | _ | _ | _ | j
    · exact absurd (by simp) hij
    · show some (cLo (va_up (cs_i zc) 1 ((31 * (cs_i zc 1)) + 4), cs_n zc, cs_I zc, cs_L zc, cs_N zc, cs_S zc, cs_X zc)) = some (cLo zc); simp [cLo, cs_i, cs_n, cs_I, cs_L, cs_N, cs_S, cs_X, va_up]
    · show some (cA2 cA (va_up (cs_i zc) 1 ((31 * (cs_i zc 1)) + 4), cs_n zc, cs_I zc, cs_L zc, cs_N zc, cs_S zc, cs_X zc)) = some (cA2 cA zc); simp [cA2, cs_i, cs_n, cs_I, cs_L, cs_N, cs_S, cs_X, va_up]
    · show some (cA3 cA (va_up (cs_i zc) 1 ((31 * (cs_i zc 1)) + 4), cs_n zc, cs_I zc, cs_L zc, cs_N zc, cs_S zc, cs_X zc)) = some (cA3 cA zc); simp [cA3, cs_i, cs_n, cs_I, cs_L, cs_N, cs_S, cs_X, va_up]
    · show some (cA4 cA (va_up (cs_i zc) 1 ((31 * (cs_i zc 1)) + 4), cs_n zc, cs_I zc, cs_L zc, cs_N zc, cs_S zc, cs_X zc)) = some (cA4 cA zc); simp [cA4, cs_i, cs_n, cs_I, cs_L, cs_N, cs_S, cs_X, va_up]
    · show some (cA5 cA (va_up (cs_i zc) 1 ((31 * (cs_i zc 1)) + 4), cs_n zc, cs_I zc, cs_L zc, cs_N zc, cs_S zc, cs_X zc)) = some (cA5 cA zc); simp [cA5, cs_i, cs_n, cs_I, cs_L, cs_N, cs_S, cs_X, va_up]
    · show some (cR6 cA (va_up (cs_i zc) 1 ((31 * (cs_i zc 1)) + 4), cs_n zc, cs_I zc, cs_L zc, cs_N zc, cs_S zc, cs_X zc)) = some (cR6 cA zc); simp [cR6, cs_i, cs_n, cs_I, cs_L, cs_N, cs_S, cs_X, va_up]
    · exact absurd (by simp) hij
    · show some (cR8 cA (va_up (cs_i zc) 1 ((31 * (cs_i zc 1)) + 4), cs_n zc, cs_I zc, cs_L zc, cs_N zc, cs_S zc, cs_X zc)) = some (cR8 cA zc); simp [cR8, cs_i, cs_n, cs_I, cs_L, cs_N, cs_S, cs_X, va_up]
    · show some (cR9 cA (va_up (cs_i zc) 1 ((31 * (cs_i zc 1)) + 4), cs_n zc, cs_I zc, cs_L zc, cs_N zc, cs_S zc, cs_X zc)) = some (cR9 cA zc); simp [cR9, cs_i, cs_n, cs_I, cs_L, cs_N, cs_S, cs_X, va_up]
    · show some (cR10 cA (va_up (cs_i zc) 1 ((31 * (cs_i zc 1)) + 4), cs_n zc, cs_I zc, cs_L zc, cs_N zc, cs_S zc, cs_X zc)) = some (cR10 cA zc); simp [cR10, cs_i, cs_n, cs_I, cs_L, cs_N, cs_S, cs_X, va_up]
    · exact absurd (by simp) hij
    · show (none : Option (Nat × va_E)) = none; rfl
  · show (if j < cs_n (va_up (cs_i zc) 1 ((31 * (cs_i zc 1)) + 4), cs_n zc, cs_I zc, cs_L zc, cs_N zc, cs_S zc, cs_X zc) 0 then some (cPi (va_up (cs_i zc) 1 ((31 * (cs_i zc 1)) + 4), cs_n zc, cs_I zc, cs_L zc, cs_N zc, cs_S zc, cs_X zc) j) else none) = if j < cs_n zc 0 then some (cPi zc j) else none
    simp [cPi, cs_i, cs_n, cs_I, cs_L, cs_N, cs_S, cs_X, va_up]
  · show (if j < cs_n (va_up (cs_i zc) 1 ((31 * (cs_i zc 1)) + 4), cs_n zc, cs_I zc, cs_L zc, cs_N zc, cs_S zc, cs_X zc) 1 then some (cGa (va_up (cs_i zc) 1 ((31 * (cs_i zc 1)) + 4), cs_n zc, cs_I zc, cs_L zc, cs_N zc, cs_S zc, cs_X zc) j) else none) = if j < cs_n zc 1 then some (cGa zc j) else none
    simp [cGa, cs_i, cs_n, cs_I, cs_L, cs_N, cs_S, cs_X, va_up]
  · show (if j < cs_n (va_up (cs_i zc) 1 ((31 * (cs_i zc 1)) + 4), cs_n zc, cs_I zc, cs_L zc, cs_N zc, cs_S zc, cs_X zc) 2 then some (cTa (va_up (cs_i zc) 1 ((31 * (cs_i zc 1)) + 4), cs_n zc, cs_I zc, cs_L zc, cs_N zc, cs_S zc, cs_X zc) j) else none) = if j < cs_n zc 2 then some (cTa zc j) else none
    simp [cTa, cs_i, cs_n, cs_I, cs_L, cs_N, cs_S, cs_X, va_up]
  · show (if j < cs_n (va_up (cs_i zc) 1 ((31 * (cs_i zc 1)) + 4), cs_n zc, cs_I zc, cs_L zc, cs_N zc, cs_S zc, cs_X zc) 3 then some (cPa (va_up (cs_i zc) 1 ((31 * (cs_i zc 1)) + 4), cs_n zc, cs_I zc, cs_L zc, cs_N zc, cs_S zc, cs_X zc) j) else none) = if j < cs_n zc 3 then some (cPa zc j) else none
    simp [cPa, cs_i, cs_n, cs_I, cs_L, cs_N, cs_S, cs_X, va_up]
  · show (if j = 0 ∧ ¬ cs_n (va_up (cs_i zc) 1 ((31 * (cs_i zc 1)) + 4), cs_n zc, cs_I zc, cs_L zc, cs_N zc, cs_S zc, cs_X zc) 4 = 0 then some (cAu (va_up (cs_i zc) 1 ((31 * (cs_i zc 1)) + 4), cs_n zc, cs_I zc, cs_L zc, cs_N zc, cs_S zc, cs_X zc)) else none) = if j = 0 ∧ ¬ cs_n zc 4 = 0 then some (cAu zc) else none
    simp [cAu, cs_i, cs_n, cs_I, cs_L, cs_N, cs_S, cs_X, va_up]
  · show (if j < 4 then some (cSh (va_up (cs_i zc) 1 ((31 * (cs_i zc 1)) + 4), cs_n zc, cs_I zc, cs_L zc, cs_N zc, cs_S zc, cs_X zc) j) else none) = if j < 4 then some (cSh zc j) else none
    simp [cSh, cs_i, cs_n, cs_I, cs_L, cs_N, cs_S, cs_X, va_up]
  · show (if j < 4 then some (cSc cA (va_up (cs_i zc) 1 ((31 * (cs_i zc 1)) + 4), cs_n zc, cs_I zc, cs_L zc, cs_N zc, cs_S zc, cs_X zc) j) else none) = if j < 4 then some (cSc cA zc j) else none
    simp [cSc, cs_i, cs_n, cs_I, cs_L, cs_N, cs_S, cs_X, va_up]
  · show (none : Option (Nat × va_E)) = none; rfl
set_option maxHeartbeats 4000000 in
theorem lf_greet_3 (cA : Nat → ClassId) (zc : CS) (jg : Nat) (hjg : jg < cs_n zc 1) (hk : cs_N zc 1 jg = 4) (hI : invC zc) : invC (va_up (cs_i zc) 1 ((31 * ((31 * (cs_i zc 1)) + 6)) + 5), cs_n zc, cs_I zc, cs_L zc, cs_N zc, cs_S zc, cs_X zc) ∧ kAll (cF cA (va_up (cs_i zc) 1 ((31 * ((31 * (cs_i zc 1)) + 6)) + 5), cs_n zc, cs_I zc, cs_L zc, cs_N zc, cs_S zc, cs_X zc)) [(0, 0), (0, 7), (2, jg), (0, 11)] [cTP zc, cR7 cA zc, (cs_X zc 2 jg, .inr (4, [.int (nI jg), .int (cs_I zc 21 jg), .int (cs_I zc 22 jg), .long (cs_L zc 0 jg)])), (cs_X zc 0 11, .inr (9, [.int ((31 * ((31 * (cs_i zc 1)) + 6)) + 5)]))] ∧ ∀ i j, (i, j) ∉ ([(0, 0), (0, 7), (2, jg), (0, 11)] : List (Nat × Nat)) → cF cA (va_up (cs_i zc) 1 ((31 * ((31 * (cs_i zc 1)) + 6)) + 5), cs_n zc, cs_I zc, cs_L zc, cs_N zc, cs_S zc, cs_X zc) i j = none ∨ ((i, j) ∉ ([(0, 0), (0, 7), (2, jg), (0, 11)] : List (Nat × Nat)) ∧ cF cA (va_up (cs_i zc) 1 ((31 * ((31 * (cs_i zc 1)) + 6)) + 5), cs_n zc, cs_I zc, cs_L zc, cs_N zc, cs_S zc, cs_X zc) i j = cF cA zc i j) := by
  obtain ⟨⟨hn0, hn1, hn2, hn3, hn4, hn5⟩, hpi, hgk, htk, hpk, hsh⟩ := id hI
  refine ⟨hI, ⟨(by (rw [(kF_tp (cA := cA) (z := (va_up (cs_i zc) 1 ((31 * ((31 * (cs_i zc 1)) + 6)) + 5), cs_n zc, cs_I zc, cs_L zc, cs_N zc, cs_S zc, cs_X zc)))]) <;> simp [cTP, cTPN, cTPA, cLo, cA2, cA3, cA4, cA5, cR6, cR7, cR8, cR9, cR10, cTr, cPi, cPiN, cPiT, cGa, cGaK, cTa, cPa, cAu, cAuN, cAuB, cSh, cSc, cs_i, cs_n, cs_I, cs_L, cs_N, cs_S, cs_X, va_up, upd, opN]), (by (rw [(kF_r7 (cA := cA) (z := (va_up (cs_i zc) 1 ((31 * ((31 * (cs_i zc 1)) + 6)) + 5), cs_n zc, cs_I zc, cs_L zc, cs_N zc, cs_S zc, cs_X zc)))]) <;> simp [cTP, cTPN, cTPA, cLo, cA2, cA3, cA4, cA5, cR6, cR7, cR8, cR9, cR10, cTr, cPi, cPiN, cPiT, cGa, cGaK, cTa, cPa, cAu, cAuN, cAuB, cSh, cSc, cs_i, cs_n, cs_I, cs_L, cs_N, cs_S, cs_X, va_up, upd, opN]), (by (rw [(kF_gaK (z := (va_up (cs_i zc) 1 ((31 * ((31 * (cs_i zc 1)) + 6)) + 5), cs_n zc, cs_I zc, cs_L zc, cs_N zc, cs_S zc, cs_X zc)) (j := jg) hjg hk)]) <;> simp [cTP, cTPN, cTPA, cLo, cA2, cA3, cA4, cA5, cR6, cR7, cR8, cR9, cR10, cTr, cPi, cPiN, cPiT, cGa, cGaK, cTa, cPa, cAu, cAuN, cAuB, cSh, cSc, cs_i, cs_n, cs_I, cs_L, cs_N, cs_S, cs_X, va_up, upd, opN]), (by (rw [(kF_tr (cA := cA) (z := (va_up (cs_i zc) 1 ((31 * ((31 * (cs_i zc 1)) + 6)) + 5), cs_n zc, cs_I zc, cs_L zc, cs_N zc, cs_S zc, cs_X zc)))]) <;> simp [cTP, cTPN, cTPA, cLo, cA2, cA3, cA4, cA5, cR6, cR7, cR8, cR9, cR10, cTr, cPi, cPiN, cPiT, cGa, cGaK, cTa, cPa, cAu, cAuN, cAuB, cSh, cSc, cs_i, cs_n, cs_I, cs_L, cs_N, cs_S, cs_X, va_up, upd, opN]), trivial⟩, ?_⟩
  intro i j hij
  refine Or.inr ⟨hij, ?_⟩
  rcases i with _ | _ | _ | _ | _ | _ | _ | _ | i
  · rcases j with _ | _ | _ | _ | _ | _ | _ | _ | _ | _ | _ | _ | j
    · exact absurd (by simp) hij
    · show some (cLo (va_up (cs_i zc) 1 ((31 * ((31 * (cs_i zc 1)) + 6)) + 5), cs_n zc, cs_I zc, cs_L zc, cs_N zc, cs_S zc, cs_X zc)) = some (cLo zc); simp [cLo, cs_i, cs_n, cs_I, cs_L, cs_N, cs_S, cs_X, va_up]
    · show some (cA2 cA (va_up (cs_i zc) 1 ((31 * ((31 * (cs_i zc 1)) + 6)) + 5), cs_n zc, cs_I zc, cs_L zc, cs_N zc, cs_S zc, cs_X zc)) = some (cA2 cA zc); simp [cA2, cs_i, cs_n, cs_I, cs_L, cs_N, cs_S, cs_X, va_up]
    · show some (cA3 cA (va_up (cs_i zc) 1 ((31 * ((31 * (cs_i zc 1)) + 6)) + 5), cs_n zc, cs_I zc, cs_L zc, cs_N zc, cs_S zc, cs_X zc)) = some (cA3 cA zc); simp [cA3, cs_i, cs_n, cs_I, cs_L, cs_N, cs_S, cs_X, va_up]
    · show some (cA4 cA (va_up (cs_i zc) 1 ((31 * ((31 * (cs_i zc 1)) + 6)) + 5), cs_n zc, cs_I zc, cs_L zc, cs_N zc, cs_S zc, cs_X zc)) = some (cA4 cA zc); simp [cA4, cs_i, cs_n, cs_I, cs_L, cs_N, cs_S, cs_X, va_up]
    · show some (cA5 cA (va_up (cs_i zc) 1 ((31 * ((31 * (cs_i zc 1)) + 6)) + 5), cs_n zc, cs_I zc, cs_L zc, cs_N zc, cs_S zc, cs_X zc)) = some (cA5 cA zc); simp [cA5, cs_i, cs_n, cs_I, cs_L, cs_N, cs_S, cs_X, va_up]
    · show some (cR6 cA (va_up (cs_i zc) 1 ((31 * ((31 * (cs_i zc 1)) + 6)) + 5), cs_n zc, cs_I zc, cs_L zc, cs_N zc, cs_S zc, cs_X zc)) = some (cR6 cA zc); simp [cR6, cs_i, cs_n, cs_I, cs_L, cs_N, cs_S, cs_X, va_up]
    · exact absurd (by simp) hij
    · show some (cR8 cA (va_up (cs_i zc) 1 ((31 * ((31 * (cs_i zc 1)) + 6)) + 5), cs_n zc, cs_I zc, cs_L zc, cs_N zc, cs_S zc, cs_X zc)) = some (cR8 cA zc); simp [cR8, cs_i, cs_n, cs_I, cs_L, cs_N, cs_S, cs_X, va_up]
    · show some (cR9 cA (va_up (cs_i zc) 1 ((31 * ((31 * (cs_i zc 1)) + 6)) + 5), cs_n zc, cs_I zc, cs_L zc, cs_N zc, cs_S zc, cs_X zc)) = some (cR9 cA zc); simp [cR9, cs_i, cs_n, cs_I, cs_L, cs_N, cs_S, cs_X, va_up]
    · show some (cR10 cA (va_up (cs_i zc) 1 ((31 * ((31 * (cs_i zc 1)) + 6)) + 5), cs_n zc, cs_I zc, cs_L zc, cs_N zc, cs_S zc, cs_X zc)) = some (cR10 cA zc); simp [cR10, cs_i, cs_n, cs_I, cs_L, cs_N, cs_S, cs_X, va_up]
    · exact absurd (by simp) hij
    · show (none : Option (Nat × va_E)) = none; rfl
  · show (if j < cs_n (va_up (cs_i zc) 1 ((31 * ((31 * (cs_i zc 1)) + 6)) + 5), cs_n zc, cs_I zc, cs_L zc, cs_N zc, cs_S zc, cs_X zc) 0 then some (cPi (va_up (cs_i zc) 1 ((31 * ((31 * (cs_i zc 1)) + 6)) + 5), cs_n zc, cs_I zc, cs_L zc, cs_N zc, cs_S zc, cs_X zc) j) else none) = if j < cs_n zc 0 then some (cPi zc j) else none
    simp [cPi, cs_i, cs_n, cs_I, cs_L, cs_N, cs_S, cs_X, va_up]
  · show (if j < cs_n (va_up (cs_i zc) 1 ((31 * ((31 * (cs_i zc 1)) + 6)) + 5), cs_n zc, cs_I zc, cs_L zc, cs_N zc, cs_S zc, cs_X zc) 1 then some (cGa (va_up (cs_i zc) 1 ((31 * ((31 * (cs_i zc 1)) + 6)) + 5), cs_n zc, cs_I zc, cs_L zc, cs_N zc, cs_S zc, cs_X zc) j) else none) = if j < cs_n zc 1 then some (cGa zc j) else none
    simp [cGa, cs_i, cs_n, cs_I, cs_L, cs_N, cs_S, cs_X, va_up]
  · show (if j < cs_n (va_up (cs_i zc) 1 ((31 * ((31 * (cs_i zc 1)) + 6)) + 5), cs_n zc, cs_I zc, cs_L zc, cs_N zc, cs_S zc, cs_X zc) 2 then some (cTa (va_up (cs_i zc) 1 ((31 * ((31 * (cs_i zc 1)) + 6)) + 5), cs_n zc, cs_I zc, cs_L zc, cs_N zc, cs_S zc, cs_X zc) j) else none) = if j < cs_n zc 2 then some (cTa zc j) else none
    simp [cTa, cs_i, cs_n, cs_I, cs_L, cs_N, cs_S, cs_X, va_up]
  · show (if j < cs_n (va_up (cs_i zc) 1 ((31 * ((31 * (cs_i zc 1)) + 6)) + 5), cs_n zc, cs_I zc, cs_L zc, cs_N zc, cs_S zc, cs_X zc) 3 then some (cPa (va_up (cs_i zc) 1 ((31 * ((31 * (cs_i zc 1)) + 6)) + 5), cs_n zc, cs_I zc, cs_L zc, cs_N zc, cs_S zc, cs_X zc) j) else none) = if j < cs_n zc 3 then some (cPa zc j) else none
    simp [cPa, cs_i, cs_n, cs_I, cs_L, cs_N, cs_S, cs_X, va_up]
  · show (if j = 0 ∧ ¬ cs_n (va_up (cs_i zc) 1 ((31 * ((31 * (cs_i zc 1)) + 6)) + 5), cs_n zc, cs_I zc, cs_L zc, cs_N zc, cs_S zc, cs_X zc) 4 = 0 then some (cAu (va_up (cs_i zc) 1 ((31 * ((31 * (cs_i zc 1)) + 6)) + 5), cs_n zc, cs_I zc, cs_L zc, cs_N zc, cs_S zc, cs_X zc)) else none) = if j = 0 ∧ ¬ cs_n zc 4 = 0 then some (cAu zc) else none
    simp [cAu, cs_i, cs_n, cs_I, cs_L, cs_N, cs_S, cs_X, va_up]
  · show (if j < 4 then some (cSh (va_up (cs_i zc) 1 ((31 * ((31 * (cs_i zc 1)) + 6)) + 5), cs_n zc, cs_I zc, cs_L zc, cs_N zc, cs_S zc, cs_X zc) j) else none) = if j < 4 then some (cSh zc j) else none
    simp [cSh, cs_i, cs_n, cs_I, cs_L, cs_N, cs_S, cs_X, va_up]
  · show (if j < 4 then some (cSc cA (va_up (cs_i zc) 1 ((31 * ((31 * (cs_i zc 1)) + 6)) + 5), cs_n zc, cs_I zc, cs_L zc, cs_N zc, cs_S zc, cs_X zc) j) else none) = if j < 4 then some (cSc cA zc j) else none
    simp [cSc, cs_i, cs_n, cs_I, cs_L, cs_N, cs_S, cs_X, va_up]
  · show (none : Option (Nat × va_E)) = none; rfl
set_option maxHeartbeats 4000000 in
set_option maxRecDepth 100000 in
theorem K_greet (l : Launch) (dC : Nat → ClassId) (dI : Nat → Nat → Nat) (cA : Nat → ClassId) (sz : Nat) (zc : CS) (g : Int32) (hI : invC zc) : Met l yX10_greet wsX10_greet ({ frames := 3, cells := 0, slots := 0, locals := 90 }) (kw (dC, dI) (ctys cA) (cF cA zc) sz [.ref (cs_X zc 0 0), .int g]) (kQi (dC, dI) (ctys cA) (cF cA zc) sz (cF cA) (fun r u => (invC u ∧ cs_X u 0 0 = cs_X zc 0 0) ∧ pC_greet zc g r u)) 0 0 (kA (cF cA zc) sz) := by
  refine kw_met (cc := cX10_greet) (maxL := 3) (ret := (some .int)) (by decide) rfl (Nat.le_of_ble_eq_true rfl) ?_
  intro p e s m below meth c0 hx hb hr hml hown hlocks hnm hts hPk hKk hDk hN hsz ls hl
  subst hsz
  have hK : va_K (dC, dI) vwCl [(cA 0, .int), (cA 1, .object RX6), (cA 2, .object RX2), (cA 3, .object RX8), (cA 4, .object RX5), (cA 5, .object RX7)] s := hKk
  obtain ⟨⟨hn0, hn1, hn2, hn3, hn4, hn5⟩, hpi, hgk, htk, hpk, hsh⟩ := id hI
  have hl : lv_has ls 3 [(0, .ref (cs_X zc 0 0)), (1, .int g)] := hl
  have hiX10 : ∀ w ∈ wsX100, w ∈ wsX10_greet := fun _ h => List.mem_cons_of_mem _ (List.mem_append_left _ (List.mem_append_left _ (List.mem_append_left _ (List.mem_append_left _ (List.mem_append_right _ (h))))))
  generalize hQ : MQ _ _ _ _ _ _ _ = Q
  rcases ixd g (cs_n zc 1) with hnojg | ⟨jg, hjg, rfl⟩
  · skip
    have hks : kAll (cF cA zc) [(0, 0), (0, 7)] [cTP zc, cR7 cA zc] := ⟨(kF_tp (cA := cA) (z := zc)), (kF_r7 (cA := cA) (z := zc)), trivial⟩
    have hP : va_P (dC, dI) vwCl [cTP zc, cR7 cA zc] s.heap := kAll_P hPk hks
    have hD : va_D (va_A [cTP zc, cR7 cA zc] s.heap.size) [cTP zc, cR7 cA zc] := (kAll_D hDk hks (by simp)).self
    have hA : ∀ q : Nat, s.heap.size ≤ q → va_A [cTP zc, cR7 cA zc] s.heap.size q := fun q h => Or.inr h
    have hS : va_S (va_A [cTP zc, cR7 cA zc] s.heap.size) s.heap s.heap [] := va_S.rf
    refine lv_aload_n hx hb dX10_greet_0 rfl (lv_at hl 0 rfl) ?_
    refine lv_iload_n hx hb dX10_greet_1 rfl (lv_at hl 1 rfl) ?_
    have hPc := hP.sub (ws' := [cTP zc]) [0] rfl
    have hDc := hD.sub (ws' := [cTP zc]) [0] (by decide) rfl
    have hKc := hK.sub (tys' := []) [] rfl
    refine va_csq (va_Run.run (va_runV (As := [.int g]) (rest := []) ⟨hx, hb, hml, hown, hts⟩ (s_gangAt_no l dC dI  _ (cs_X zc 0 0) (.ref (cs_X zc 0 1)) (.ref (cs_X zc 0 6)) (.ref (cs_X zc 0 7)) (.ref (cs_X zc 0 8)) (.ref (cs_X zc 0 9)) (.ref (cs_X zc 0 10)) (.ref (cs_X zc 0 11)) (.int (nI (cs_n zc 0))) (.int (nI (cs_n zc 2))) (.int (nI (cs_n zc 3))) (va_rf (opN (cs_n zc 4) (fun _ => cs_X zc 5 0))) (.int (cs_i zc 2)) g (cs_n zc 1) (by omega) hnojg) (cwV 1 hts gX10_greet_X10_gangAt rfl rfl rfl (by decide +kernel) ⟨Nat.le_of_ble_eq_true rfl, Nat.le_of_ble_eq_true rfl⟩) (pw_preV (va_recv hKc hPc (ci := 10) (q0 := 0) rfl rfl) hPc hKc hDc hN) rfl rfl hl.1 rfl (lv_room (Nat.le_of_ble_eq_true rfl)) dX10_greet_2 ⟨Nat.le_of_ble_eq_true rfl, Nat.le_of_ble_eq_true rfl⟩)) (fun r1 hr1 => ?_)
    have hr1 : r1 = none := hr1
    subst hr1
    refine W.eq (g2 := F0 m 5 ls [.null]) rfl ?_
    refine lv_astore_nN (lv' := [(2, .null), (0, .ref (cs_X zc 0 0)), (1, .int g)]) hx hb dX10_greet_5 rfl hl (by decide) rfl (fun ls hl => ?_)
    refine lv_aload_nN hx hb dX10_greet_6 rfl (lv_at hl 0 rfl) ?_
    refine lv_ifnonnullN hx hb dX10_greet_7 ?_
    refine lv_iconst (v := (-1)) hx hb dX10_greet_10 (by decide) ?_
    refine lv_goto (tgt := 22) hx hb dX10_greet_11 (by decide) ?_
    subst hQ
    exact W.iret (v := (-1)) hx hb hr (fun t ht hW => ⟨⟨(-1), zc, rfl, ⟨⟨hI, rfl⟩, (Or.inl ⟨hnojg, rfl, rfl⟩)⟩, (by rw [ht]; exact hPk), va_K.moved hW.alike hKk, kDA_self hDk⟩, (kw_same hPk ht).2⟩) (fun q h => absurd h List.not_mem_nil) dX10_greet_22
  · skip
    rcases (hgk jg hjg) with hk | hk | hk
    · skip
      have hks : kAll (cF cA zc) [(0, 0), (0, 7), (2, jg), (0, 11)] [cTP zc, cR7 cA zc, cGaK zc jg 1, cTr zc] := ⟨(kF_tp (cA := cA) (z := zc)), (kF_r7 (cA := cA) (z := zc)), (kF_gaK (z := zc) (j := jg) hjg hk), (kF_tr (cA := cA) (z := zc)), trivial⟩
      have hP : va_P (dC, dI) vwCl [cTP zc, cR7 cA zc, cGaK zc jg 1, cTr zc] s.heap := kAll_P hPk hks
      have hD : va_D (va_A [cTP zc, cR7 cA zc, cGaK zc jg 1, cTr zc] s.heap.size) [cTP zc, cR7 cA zc, cGaK zc jg 1, cTr zc] := (kAll_D hDk hks (by simp)).self
      have hA : ∀ q : Nat, s.heap.size ≤ q → va_A [cTP zc, cR7 cA zc, cGaK zc jg 1, cTr zc] s.heap.size q := fun q h => Or.inr h
      have hS : va_S (va_A [cTP zc, cR7 cA zc, cGaK zc jg 1, cTr zc] s.heap.size) s.heap s.heap [] := va_S.rf
      refine lv_aload_n hx hb dX10_greet_0 rfl (lv_at hl 0 rfl) ?_
      refine lv_iload_n hx hb dX10_greet_1 rfl (lv_at hl 1 rfl) ?_
      have hPc := hP.sub (ws' := [cTP zc, cR7 cA zc]) [0, 1] rfl
      have hDc := hD.sub (ws' := [cTP zc, cR7 cA zc]) [0, 1] (by decide) rfl
      have hKc := hK.sub (tys' := [(cA 2, .object RX2)]) [2] rfl
      refine va_csq (va_Run.run (va_runV (As := [.int (nI jg)]) (rest := []) ⟨hx, hb, hml, hown, hts⟩ (s_gangAt_yes l dC dI (cA 2) _ (cs_X zc 0 0) (.ref (cs_X zc 0 1)) (.ref (cs_X zc 0 6)) (.ref (cs_X zc 0 8)) (.ref (cs_X zc 0 9)) (.ref (cs_X zc 0 10)) (.ref (cs_X zc 0 11)) (.int (nI (cs_n zc 0))) (.int (nI (cs_n zc 2))) (.int (nI (cs_n zc 3))) (va_rf (opN (cs_n zc 4) (fun _ => cs_X zc 5 0))) (.int (cs_i zc 2)) (cs_X zc 0 7) jg (cs_n zc 1) (cs_X zc 2 jg) (rfN (cs_n zc 1) (cs_X zc 2)) hjg (by omega) (rfN_at hjg)) (cwV 1 hts gX10_greet_X10_gangAt rfl rfl rfl (by decide +kernel) ⟨Nat.le_of_ble_eq_true rfl, Nat.le_of_ble_eq_true rfl⟩) (pw_preV (va_recv hKc hPc (ci := 10) (q0 := 0) rfl rfl) hPc hKc hDc hN) rfl rfl hl.1 rfl (lv_room (Nat.le_of_ble_eq_true rfl)) dX10_greet_2 ⟨Nat.le_of_ble_eq_true rfl, Nat.le_of_ble_eq_true rfl⟩)) (fun r2 hr2 => ?_)
      have hr2 : r2 = some (cs_X zc 2 jg) := hr2
      subst hr2
      refine W.eq (g2 := F0 m 5 ls [.ref (cs_X zc 2 jg)]) rfl ?_
      refine lv_astore_n (lv' := [(2, .ref (cs_X zc 2 jg)), (0, .ref (cs_X zc 0 0)), (1, .int (nI jg))]) hx hb dX10_greet_5 rfl hl (by decide) rfl (fun ls hl => ?_)
      refine lv_aload_n hx hb dX10_greet_6 rfl (lv_at hl 0 rfl) ?_
      refine lv_ifnonnull (tgt := 14) hx hb dX10_greet_7 (by decide) ?_
      refine lv_aload_n hx hb dX10_greet_14 rfl (lv_at hl 0 rfl) ?_
      refine lv_aload_n hx hb dX10_greet_15 rfl (lv_at hl 1 rfl) ?_
      refine va_get (D := (dC, dI)) (ci := 10) (v := .ref (cs_X zc 0 11)) (C := RX10) (T := TX10) (N := 13) hx hb hts hiX10 hown hK hP 0 rfl rfl 6 (by decide) (hts (.fieldLink RX10 52 "TributePitches" "steps" "LTributePitches$Trace;") (List.mem_of_getElem? (i := 1) rfl)) (fun _ h9 => h9) rfl dX10_greet_16 ?_
      have hPc := hP.sub (ws' := [cGaK zc jg 1, cTr zc]) [2, 3] rfl
      have hDc := hD.sub (ws' := [cGaK zc jg 1, cTr zc]) [2, 3] (by decide) rfl
      have hKc := hK.sub (tys' := []) [] rfl
      have hFc := va_free (wc := [cGaK zc jg 1, cTr zc]) hD hS hA [2, 3] rfl
      refine va_calli (va_runU (As := [.ref (cs_X zc 0 11)]) (rest := []) ⟨hx, hb, hml, hown, hts⟩ (s_greet_1_1 l dC dI  _ (cs_X zc 2 jg) (nI jg) (cs_I zc 21 jg) (cs_I zc 22 jg) (cs_L zc 0 jg) (cs_X zc 0 11) (cs_i zc 1) ) (va_cwO 1 hts gX10_greet_X1_greeting_u308X1 rfl rfl rfl (b0 := cX2_greeting) (m0 := 2) (r0 := (some .int)) (by decide +kernel) (by decide +kernel) ⟨Nat.le_of_ble_eq_true rfl, Nat.le_of_ble_eq_true rfl⟩) (pw_preV (va_recv hKc hPc (ci := 1) (q0 := 0) rfl rfl) hPc hKc hDc hN) rfl rfl hl.1 rfl (lv_room (Nat.le_of_ble_eq_true rfl)) dX10_greet_19 ⟨Nat.le_of_ble_eq_true rfl, Nat.le_of_ble_eq_true rfl⟩) hS (fun q _ h => hFc q h) hFc (fun r3 u t H1 locs ht hvm hw hB hz1 hk1 hS => ?_)
      have hr3 : r3 = 6 := hw
      obtain ⟨hP1, hK1, hD1⟩ := hB
      rw [ht] at hP1
      obtain ⟨hP, hD⟩ := va_join (wr := [cTP zc, cR7 cA zc]) (w1 := [(cs_X zc 2 jg, .inr (1, [.int (nI jg), .int (cs_I zc 21 jg), .int (cs_I zc 22 jg), .long (cs_L zc 0 jg)])), (cs_X zc 0 11, .inr (9, [.int ((31 * (cs_i zc 1)) + 5)]))]) hP hD [2, 3] [0, 1] rfl rfl (by decide) (by decide) hk1 hFc hP1 hD1
      generalize H1 = H at hP hS ⊢
      have hP : va_P (dC, dI) vwCl [cTP zc, cR7 cA zc, (cs_X zc 2 jg, .inr (1, [.int (nI jg), .int (cs_I zc 21 jg), .int (cs_I zc 22 jg), .long (cs_L zc 0 jg)])), (cs_X zc 0 11, .inr (9, [.int ((31 * (cs_i zc 1)) + 5)]))] H := hP
      have hD : va_D _ [cTP zc, cR7 cA zc, (cs_X zc 2 jg, .inr (1, [.int (nI jg), .int (cs_I zc 21 jg), .int (cs_I zc 22 jg), .long (cs_L zc 0 jg)])), (cs_X zc 0 11, .inr (9, [.int ((31 * (cs_i zc 1)) + 5)]))] := hD
      have hr3 := hr3.symm
      subst hr3
      refine W.eq (g2 := F0 m 22 ls [.int 6]) rfl ?_
      subst hQ
      have hP9 : va_P (dC, dI) vwCl [cTP zc, cR7 cA zc, (cs_X zc 2 jg, .inr (1, [.int (nI jg), .int (cs_I zc 21 jg), .int (cs_I zc 22 jg), .long (cs_L zc 0 jg)])), (cs_X zc 0 11, .inr (9, [.int ((31 * (cs_i zc 1)) + 5)]))] H := hP.sub [0, 1, 2, 3] rfl
      have hD9 : va_D (va_A [cTP zc, cR7 cA zc, cGaK zc jg 1, cTr zc] s.heap.size) [cTP zc, cR7 cA zc, (cs_X zc 2 jg, .inr (1, [.int (nI jg), .int (cs_I zc 21 jg), .int (cs_I zc 22 jg), .long (cs_L zc 0 jg)])), (cs_X zc 0 11, .inr (9, [.int ((31 * (cs_i zc 1)) + 5)]))] := hD.sub [0, 1, 2, 3] (by decide) rfl
      have hlf := lf_greet_1 cA zc jg hjg hk hI
      exact W.iret (v := 6) hx hb hr (fun t ht hW => have hJ := kjoin hPk hDk hks rfl (hS.F ht) (by rw [ht]; exact hP9) hD9 hlf.2.1 hlf.2.2; ⟨⟨6, (va_up (cs_i zc) 1 ((31 * (cs_i zc 1)) + 5), cs_n zc, cs_I zc, cs_L zc, cs_N zc, cs_S zc, cs_X zc), rfl, ⟨⟨hlf.1, rfl⟩, (Or.inr (Or.inl ⟨jg, rfl, hjg, hk, rfl, rfl⟩))⟩, hJ.1, va_K.moved hW.alike hKk, hJ.2.1⟩, hJ.2.2⟩) (fun q h => kAll_A hks _ (hS.2.2 q h)) dX10_greet_22
    · skip
      have hks : kAll (cF cA zc) [(0, 0), (0, 7), (2, jg), (0, 11)] [cTP zc, cR7 cA zc, cGaK zc jg 2, cTr zc] := ⟨(kF_tp (cA := cA) (z := zc)), (kF_r7 (cA := cA) (z := zc)), (kF_gaK (z := zc) (j := jg) hjg hk), (kF_tr (cA := cA) (z := zc)), trivial⟩
      have hP : va_P (dC, dI) vwCl [cTP zc, cR7 cA zc, cGaK zc jg 2, cTr zc] s.heap := kAll_P hPk hks
      have hD : va_D (va_A [cTP zc, cR7 cA zc, cGaK zc jg 2, cTr zc] s.heap.size) [cTP zc, cR7 cA zc, cGaK zc jg 2, cTr zc] := (kAll_D hDk hks (by simp)).self
      have hA : ∀ q : Nat, s.heap.size ≤ q → va_A [cTP zc, cR7 cA zc, cGaK zc jg 2, cTr zc] s.heap.size q := fun q h => Or.inr h
      have hS : va_S (va_A [cTP zc, cR7 cA zc, cGaK zc jg 2, cTr zc] s.heap.size) s.heap s.heap [] := va_S.rf
      refine lv_aload_n hx hb dX10_greet_0 rfl (lv_at hl 0 rfl) ?_
      refine lv_iload_n hx hb dX10_greet_1 rfl (lv_at hl 1 rfl) ?_
      have hPc := hP.sub (ws' := [cTP zc, cR7 cA zc]) [0, 1] rfl
      have hDc := hD.sub (ws' := [cTP zc, cR7 cA zc]) [0, 1] (by decide) rfl
      have hKc := hK.sub (tys' := [(cA 2, .object RX2)]) [2] rfl
      refine va_csq (va_Run.run (va_runV (As := [.int (nI jg)]) (rest := []) ⟨hx, hb, hml, hown, hts⟩ (s_gangAt_yes l dC dI (cA 2) _ (cs_X zc 0 0) (.ref (cs_X zc 0 1)) (.ref (cs_X zc 0 6)) (.ref (cs_X zc 0 8)) (.ref (cs_X zc 0 9)) (.ref (cs_X zc 0 10)) (.ref (cs_X zc 0 11)) (.int (nI (cs_n zc 0))) (.int (nI (cs_n zc 2))) (.int (nI (cs_n zc 3))) (va_rf (opN (cs_n zc 4) (fun _ => cs_X zc 5 0))) (.int (cs_i zc 2)) (cs_X zc 0 7) jg (cs_n zc 1) (cs_X zc 2 jg) (rfN (cs_n zc 1) (cs_X zc 2)) hjg (by omega) (rfN_at hjg)) (cwV 1 hts gX10_greet_X10_gangAt rfl rfl rfl (by decide +kernel) ⟨Nat.le_of_ble_eq_true rfl, Nat.le_of_ble_eq_true rfl⟩) (pw_preV (va_recv hKc hPc (ci := 10) (q0 := 0) rfl rfl) hPc hKc hDc hN) rfl rfl hl.1 rfl (lv_room (Nat.le_of_ble_eq_true rfl)) dX10_greet_2 ⟨Nat.le_of_ble_eq_true rfl, Nat.le_of_ble_eq_true rfl⟩)) (fun r4 hr4 => ?_)
      have hr4 : r4 = some (cs_X zc 2 jg) := hr4
      subst hr4
      refine W.eq (g2 := F0 m 5 ls [.ref (cs_X zc 2 jg)]) rfl ?_
      refine lv_astore_n (lv' := [(2, .ref (cs_X zc 2 jg)), (0, .ref (cs_X zc 0 0)), (1, .int (nI jg))]) hx hb dX10_greet_5 rfl hl (by decide) rfl (fun ls hl => ?_)
      refine lv_aload_n hx hb dX10_greet_6 rfl (lv_at hl 0 rfl) ?_
      refine lv_ifnonnull (tgt := 14) hx hb dX10_greet_7 (by decide) ?_
      refine lv_aload_n hx hb dX10_greet_14 rfl (lv_at hl 0 rfl) ?_
      refine lv_aload_n hx hb dX10_greet_15 rfl (lv_at hl 1 rfl) ?_
      refine va_get (D := (dC, dI)) (ci := 10) (v := .ref (cs_X zc 0 11)) (C := RX10) (T := TX10) (N := 13) hx hb hts hiX10 hown hK hP 0 rfl rfl 6 (by decide) (hts (.fieldLink RX10 52 "TributePitches" "steps" "LTributePitches$Trace;") (List.mem_of_getElem? (i := 1) rfl)) (fun _ h9 => h9) rfl dX10_greet_16 ?_
      have hPc := hP.sub (ws' := [cGaK zc jg 2, cTr zc]) [2, 3] rfl
      have hDc := hD.sub (ws' := [cGaK zc jg 2, cTr zc]) [2, 3] (by decide) rfl
      have hKc := hK.sub (tys' := []) [] rfl
      have hFc := va_free (wc := [cGaK zc jg 2, cTr zc]) hD hS hA [2, 3] rfl
      refine va_calli (va_runV (As := [.ref (cs_X zc 0 11)]) (rest := []) ⟨hx, hb, hml, hown, hts⟩ (s_greet_2 l dC dI  _ (cs_X zc 2 jg) (nI jg) (cs_I zc 21 jg) (cs_I zc 22 jg) (cs_L zc 0 jg) (cs_X zc 0 11) (cs_i zc 1) ) (cwV 1 hts gX10_greet_X2_greeting rfl rfl rfl (by decide +kernel) ⟨Nat.le_of_ble_eq_true rfl, Nat.le_of_ble_eq_true rfl⟩) (pw_preV (va_recv hKc hPc (ci := 2) (q0 := 0) rfl rfl) hPc hKc hDc hN) rfl rfl hl.1 rfl (lv_room (Nat.le_of_ble_eq_true rfl)) dX10_greet_19 ⟨Nat.le_of_ble_eq_true rfl, Nat.le_of_ble_eq_true rfl⟩) hS (fun q _ h => hFc q h) hFc (fun r5 u t H1 locs ht hvm hw hB hz1 hk1 hS => ?_)
      have hr5 : r5 = 10 * (nI jg) := hw
      obtain ⟨hP1, hK1, hD1⟩ := hB
      rw [ht] at hP1
      obtain ⟨hP, hD⟩ := va_join (wr := [cTP zc, cR7 cA zc]) (w1 := [(cs_X zc 2 jg, .inr (2, [.int (nI jg), .int (cs_I zc 21 jg), .int (cs_I zc 22 jg), .long (cs_L zc 0 jg)])), (cs_X zc 0 11, .inr (9, [.int ((31 * (cs_i zc 1)) + 4)]))]) hP hD [2, 3] [0, 1] rfl rfl (by decide) (by decide) hk1 hFc hP1 hD1
      generalize H1 = H at hP hS ⊢
      have hP : va_P (dC, dI) vwCl [cTP zc, cR7 cA zc, (cs_X zc 2 jg, .inr (2, [.int (nI jg), .int (cs_I zc 21 jg), .int (cs_I zc 22 jg), .long (cs_L zc 0 jg)])), (cs_X zc 0 11, .inr (9, [.int ((31 * (cs_i zc 1)) + 4)]))] H := hP
      have hD : va_D _ [cTP zc, cR7 cA zc, (cs_X zc 2 jg, .inr (2, [.int (nI jg), .int (cs_I zc 21 jg), .int (cs_I zc 22 jg), .long (cs_L zc 0 jg)])), (cs_X zc 0 11, .inr (9, [.int ((31 * (cs_i zc 1)) + 4)]))] := hD
      have hr5 := hr5.symm
      subst hr5
      refine W.eq (g2 := F0 m 22 ls [.int (10 * (nI jg))]) rfl ?_
      subst hQ
      have hP9 : va_P (dC, dI) vwCl [cTP zc, cR7 cA zc, (cs_X zc 2 jg, .inr (2, [.int (nI jg), .int (cs_I zc 21 jg), .int (cs_I zc 22 jg), .long (cs_L zc 0 jg)])), (cs_X zc 0 11, .inr (9, [.int ((31 * (cs_i zc 1)) + 4)]))] H := hP.sub [0, 1, 2, 3] rfl
      have hD9 : va_D (va_A [cTP zc, cR7 cA zc, cGaK zc jg 2, cTr zc] s.heap.size) [cTP zc, cR7 cA zc, (cs_X zc 2 jg, .inr (2, [.int (nI jg), .int (cs_I zc 21 jg), .int (cs_I zc 22 jg), .long (cs_L zc 0 jg)])), (cs_X zc 0 11, .inr (9, [.int ((31 * (cs_i zc 1)) + 4)]))] := hD.sub [0, 1, 2, 3] (by decide) rfl
      have hlf := lf_greet_2 cA zc jg hjg hk hI
      exact W.iret (v := 10 * (nI jg)) hx hb hr (fun t ht hW => have hJ := kjoin hPk hDk hks rfl (hS.F ht) (by rw [ht]; exact hP9) hD9 hlf.2.1 hlf.2.2; ⟨⟨10 * (nI jg), (va_up (cs_i zc) 1 ((31 * (cs_i zc 1)) + 4), cs_n zc, cs_I zc, cs_L zc, cs_N zc, cs_S zc, cs_X zc), rfl, ⟨⟨hlf.1, rfl⟩, (Or.inr (Or.inr (Or.inl ⟨jg, rfl, hjg, hk, rfl, rfl⟩)))⟩, hJ.1, va_K.moved hW.alike hKk, hJ.2.1⟩, hJ.2.2⟩) (fun q h => kAll_A hks _ (hS.2.2 q h)) dX10_greet_22
    · skip
      have hks : kAll (cF cA zc) [(0, 0), (0, 7), (2, jg), (0, 11)] [cTP zc, cR7 cA zc, cGaK zc jg 4, cTr zc] := ⟨(kF_tp (cA := cA) (z := zc)), (kF_r7 (cA := cA) (z := zc)), (kF_gaK (z := zc) (j := jg) hjg hk), (kF_tr (cA := cA) (z := zc)), trivial⟩
      have hP : va_P (dC, dI) vwCl [cTP zc, cR7 cA zc, cGaK zc jg 4, cTr zc] s.heap := kAll_P hPk hks
      have hD : va_D (va_A [cTP zc, cR7 cA zc, cGaK zc jg 4, cTr zc] s.heap.size) [cTP zc, cR7 cA zc, cGaK zc jg 4, cTr zc] := (kAll_D hDk hks (by simp)).self
      have hA : ∀ q : Nat, s.heap.size ≤ q → va_A [cTP zc, cR7 cA zc, cGaK zc jg 4, cTr zc] s.heap.size q := fun q h => Or.inr h
      have hS : va_S (va_A [cTP zc, cR7 cA zc, cGaK zc jg 4, cTr zc] s.heap.size) s.heap s.heap [] := va_S.rf
      refine lv_aload_n hx hb dX10_greet_0 rfl (lv_at hl 0 rfl) ?_
      refine lv_iload_n hx hb dX10_greet_1 rfl (lv_at hl 1 rfl) ?_
      have hPc := hP.sub (ws' := [cTP zc, cR7 cA zc]) [0, 1] rfl
      have hDc := hD.sub (ws' := [cTP zc, cR7 cA zc]) [0, 1] (by decide) rfl
      have hKc := hK.sub (tys' := [(cA 2, .object RX2)]) [2] rfl
      refine va_csq (va_Run.run (va_runV (As := [.int (nI jg)]) (rest := []) ⟨hx, hb, hml, hown, hts⟩ (s_gangAt_yes l dC dI (cA 2) _ (cs_X zc 0 0) (.ref (cs_X zc 0 1)) (.ref (cs_X zc 0 6)) (.ref (cs_X zc 0 8)) (.ref (cs_X zc 0 9)) (.ref (cs_X zc 0 10)) (.ref (cs_X zc 0 11)) (.int (nI (cs_n zc 0))) (.int (nI (cs_n zc 2))) (.int (nI (cs_n zc 3))) (va_rf (opN (cs_n zc 4) (fun _ => cs_X zc 5 0))) (.int (cs_i zc 2)) (cs_X zc 0 7) jg (cs_n zc 1) (cs_X zc 2 jg) (rfN (cs_n zc 1) (cs_X zc 2)) hjg (by omega) (rfN_at hjg)) (cwV 1 hts gX10_greet_X10_gangAt rfl rfl rfl (by decide +kernel) ⟨Nat.le_of_ble_eq_true rfl, Nat.le_of_ble_eq_true rfl⟩) (pw_preV (va_recv hKc hPc (ci := 10) (q0 := 0) rfl rfl) hPc hKc hDc hN) rfl rfl hl.1 rfl (lv_room (Nat.le_of_ble_eq_true rfl)) dX10_greet_2 ⟨Nat.le_of_ble_eq_true rfl, Nat.le_of_ble_eq_true rfl⟩)) (fun r6 hr6 => ?_)
      have hr6 : r6 = some (cs_X zc 2 jg) := hr6
      subst hr6
      refine W.eq (g2 := F0 m 5 ls [.ref (cs_X zc 2 jg)]) rfl ?_
      refine lv_astore_n (lv' := [(2, .ref (cs_X zc 2 jg)), (0, .ref (cs_X zc 0 0)), (1, .int (nI jg))]) hx hb dX10_greet_5 rfl hl (by decide) rfl (fun ls hl => ?_)
      refine lv_aload_n hx hb dX10_greet_6 rfl (lv_at hl 0 rfl) ?_
      refine lv_ifnonnull (tgt := 14) hx hb dX10_greet_7 (by decide) ?_
      refine lv_aload_n hx hb dX10_greet_14 rfl (lv_at hl 0 rfl) ?_
      refine lv_aload_n hx hb dX10_greet_15 rfl (lv_at hl 1 rfl) ?_
      refine va_get (D := (dC, dI)) (ci := 10) (v := .ref (cs_X zc 0 11)) (C := RX10) (T := TX10) (N := 13) hx hb hts hiX10 hown hK hP 0 rfl rfl 6 (by decide) (hts (.fieldLink RX10 52 "TributePitches" "steps" "LTributePitches$Trace;") (List.mem_of_getElem? (i := 1) rfl)) (fun _ h9 => h9) rfl dX10_greet_16 ?_
      have hPc := hP.sub (ws' := [cGaK zc jg 4, cTr zc]) [2, 3] rfl
      have hDc := hD.sub (ws' := [cGaK zc jg 4, cTr zc]) [2, 3] (by decide) rfl
      have hKc := hK.sub (tys' := []) [] rfl
      have hFc := va_free (wc := [cGaK zc jg 4, cTr zc]) hD hS hA [2, 3] rfl
      refine va_calli (va_runU (As := [.ref (cs_X zc 0 11)]) (rest := []) ⟨hx, hb, hml, hown, hts⟩ (s_greet_4 l dC dI  _ (cs_X zc 2 jg) (nI jg) (cs_I zc 21 jg) (cs_I zc 22 jg) (cs_L zc 0 jg) (cs_X zc 0 11) (cs_i zc 1) ) (va_cwO 1 hts gX10_greet_X4_greeting_u308X4 rfl rfl rfl (b0 := cX2_greeting) (m0 := 2) (r0 := (some .int)) (by decide +kernel) (by decide +kernel) ⟨Nat.le_of_ble_eq_true rfl, Nat.le_of_ble_eq_true rfl⟩) (pw_preV (va_recv hKc hPc (ci := 4) (q0 := 0) rfl rfl) hPc hKc hDc hN) rfl rfl hl.1 rfl (lv_room (Nat.le_of_ble_eq_true rfl)) dX10_greet_19 ⟨Nat.le_of_ble_eq_true rfl, Nat.le_of_ble_eq_true rfl⟩) hS (fun q _ h => hFc q h) hFc (fun r7 u t H1 locs ht hvm hw hB hz1 hk1 hS => ?_)
      have hr7 : r7 = 7 := hw
      obtain ⟨hP1, hK1, hD1⟩ := hB
      rw [ht] at hP1
      obtain ⟨hP, hD⟩ := va_join (wr := [cTP zc, cR7 cA zc]) (w1 := [(cs_X zc 2 jg, .inr (4, [.int (nI jg), .int (cs_I zc 21 jg), .int (cs_I zc 22 jg), .long (cs_L zc 0 jg)])), (cs_X zc 0 11, .inr (9, [.int ((31 * ((31 * (cs_i zc 1)) + 6)) + 5)]))]) hP hD [2, 3] [0, 1] rfl rfl (by decide) (by decide) hk1 hFc hP1 hD1
      generalize H1 = H at hP hS ⊢
      have hP : va_P (dC, dI) vwCl [cTP zc, cR7 cA zc, (cs_X zc 2 jg, .inr (4, [.int (nI jg), .int (cs_I zc 21 jg), .int (cs_I zc 22 jg), .long (cs_L zc 0 jg)])), (cs_X zc 0 11, .inr (9, [.int ((31 * ((31 * (cs_i zc 1)) + 6)) + 5)]))] H := hP
      have hD : va_D _ [cTP zc, cR7 cA zc, (cs_X zc 2 jg, .inr (4, [.int (nI jg), .int (cs_I zc 21 jg), .int (cs_I zc 22 jg), .long (cs_L zc 0 jg)])), (cs_X zc 0 11, .inr (9, [.int ((31 * ((31 * (cs_i zc 1)) + 6)) + 5)]))] := hD
      have hr7 := hr7.symm
      subst hr7
      refine W.eq (g2 := F0 m 22 ls [.int 7]) rfl ?_
      subst hQ
      have hP9 : va_P (dC, dI) vwCl [cTP zc, cR7 cA zc, (cs_X zc 2 jg, .inr (4, [.int (nI jg), .int (cs_I zc 21 jg), .int (cs_I zc 22 jg), .long (cs_L zc 0 jg)])), (cs_X zc 0 11, .inr (9, [.int ((31 * ((31 * (cs_i zc 1)) + 6)) + 5)]))] H := hP.sub [0, 1, 2, 3] rfl
      have hD9 : va_D (va_A [cTP zc, cR7 cA zc, cGaK zc jg 4, cTr zc] s.heap.size) [cTP zc, cR7 cA zc, (cs_X zc 2 jg, .inr (4, [.int (nI jg), .int (cs_I zc 21 jg), .int (cs_I zc 22 jg), .long (cs_L zc 0 jg)])), (cs_X zc 0 11, .inr (9, [.int ((31 * ((31 * (cs_i zc 1)) + 6)) + 5)]))] := hD.sub [0, 1, 2, 3] (by decide) rfl
      have hlf := lf_greet_3 cA zc jg hjg hk hI
      exact W.iret (v := 7) hx hb hr (fun t ht hW => have hJ := kjoin hPk hDk hks rfl (hS.F ht) (by rw [ht]; exact hP9) hD9 hlf.2.1 hlf.2.2; ⟨⟨7, (va_up (cs_i zc) 1 ((31 * ((31 * (cs_i zc 1)) + 6)) + 5), cs_n zc, cs_I zc, cs_L zc, cs_N zc, cs_S zc, cs_X zc), rfl, ⟨⟨hlf.1, rfl⟩, (Or.inr (Or.inr (Or.inr ⟨jg, rfl, hjg, hk, rfl, rfl⟩)))⟩, hJ.1, va_K.moved hW.alike hKk, hJ.2.1⟩, hJ.2.2⟩) (fun q h => kAll_A hks _ (hS.2.2 q h)) dX10_greet_22
