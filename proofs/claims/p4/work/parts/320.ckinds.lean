theorem k012 {k : Int32} (h : 0 ≤ k ∧ k ≤ 2) : k = 0 ∨ k = 1 ∨ k = 2 := by
  obtain ⟨a, ha, rfl⟩ := nI_of2 (x := k) (M := 2) (n := 2) (by decide) (Int32.not_lt.mpr h.1) h.2
  rcases (show a = 0 ∨ a = 1 ∨ a = 2 by omega) with rfl | rfl | rfl
  · exact Or.inl rfl
  · exact Or.inr (Or.inl rfl)
  · exact Or.inr (Or.inr rfl)
theorem nI_lt_of {a b : Nat} (ha : a ≤ 1000) (hb : b ≤ 1000) (h : nI a < nI b) : a < b := (nI_ltI (by omega) (by omega)).mp h
theorem nI_ge_of {a b : Nat} (ha : a ≤ 1000) (hb : b ≤ 1000) (h : ¬ nI a < nI b) : b ≤ a := Nat.not_lt.mp fun q => h ((nI_ltI (by omega) (by omega)).mpr q)
theorem opN_up {n k q : Nat} {a : Nat → Nat} (h : n ≤ k) : opN n (va_up a k q) = opN n a := by
  unfold opN
  by_cases h0 : n = 0
  · rw [if_pos h0, if_pos h0]
  · rw [if_neg h0, if_neg h0, va_up_ne _ _ (by omega)]
theorem sqn (a b : Nat) : (8 : Int32) * nI a + nI b = nI (8 * a + b) := by
  rw [show (8 : Int32) * nI a = nI (8 * a) from pk_mul 8 a]
  exact nI_add _ _
def racc (g : Nat → Int32) (b : Nat) (a : Int64) : Nat → Int64
  | 0 => a
  | k + 1 => racc g b a k + (g (b + k)).toInt64
def pacc (g : Nat → Int32) (xa w ya : Nat) : Nat → Int64
  | 0 => 0
  | i + 1 => racc g (8 * (ya + i) + xa) (pacc g xa w ya i) (w + 1)
def gacc (g : Nat → Int32) (b : Nat) (a : Int32) : Nat → Int32
  | 0 => a
  | k + 1 => if gacc g b a k < g (b + k) then g (b + k) else gacc g b a k
def pmax (g : Nat → Int32) (xa w ya : Nat) : Nat → Int32
  | 0 => 0
  | i + 1 => gacc g (8 * (ya + i) + xa) (pmax g xa w ya i) (w + 1)
theorem rect {a b c d : Int32} (h : (0 ≤ a.toInt ∧ a.toInt ≤ b.toInt ∧ b.toInt ≤ 7) ∧ (0 ≤ c.toInt ∧ c.toInt ≤ d.toInt ∧ d.toInt ≤ 5)) : ∃ xa wa ya ha : Nat, a = nI xa ∧ b = nI (xa + wa) ∧ c = nI ya ∧ d = nI (ya + ha) ∧ xa + wa ≤ 7 ∧ ya + ha ≤ 5 := by
  obtain ⟨⟨h1, h2, h3⟩, h4, h5, h6⟩ := h
  have z : (0 : Int32).toInt = 0 := by decide
  obtain ⟨xa, q1, rfl⟩ := nI_of (x := a) (fun q => by have q := (fa_lt _ _).mp q; omega)
  obtain ⟨xb, q2, rfl⟩ := nI_of (x := b) (fun q => by have q := (fa_lt _ _).mp q; omega)
  obtain ⟨ya, q3, rfl⟩ := nI_of (x := c) (fun q => by have q := (fa_lt _ _).mp q; omega)
  obtain ⟨yb, q4, rfl⟩ := nI_of (x := d) (fun q => by have q := (fa_lt _ _).mp q; omega)
  rw [nI_toInt q1] at h1 h2
  rw [nI_toInt q2] at h2 h3
  rw [nI_toInt q3] at h4 h5
  rw [nI_toInt q4] at h5 h6
  refine ⟨xa, xb - xa, ya, yb - ya, rfl, ?_, rfl, ?_, by omega, by omega⟩
  · rw [show xa + (xb - xa) = xb by omega]
  · rw [show ya + (yb - ya) = yb by omega]
set_option maxHeartbeats 4000000 in
set_option maxRecDepth 100000 in
theorem c_X2_init (l : Launch) (dC : Nat → ClassId) (dI : Nat → Nat → Nat)  (sz : Nat) (qg : Nat) (k : Int32)  : Met l yX2_init wsX2_init ({ frames := 1, cells := 0, slots := 0, locals := 12 }) (pw (dC, dI) [] [(qg, .inr (2, [.int 0, .int 0, .int 0, .long 0]))] sz [.ref qg, .int k]) (va_Qv (fun (_ : Unit) => True) (fun _ t => bw (dC, dI) [] (va_A [(qg, .inr (2, [.int 0, .int 0, .int 0, .long 0]))] sz) [(qg, .inr (2, [.int k, .int 0, .int 0, .long 0]))] t) (va_A [(qg, .inr (2, [.int 0, .int 0, .int 0, .long 0]))] sz)) 0 0 (va_A [(qg, .inr (2, [.int 0, .int 0, .int 0, .long 0]))] sz) := by
  refine pw_met (cc := cX2_init) (maxL := 2) (ret := none) (by decide) rfl (Nat.le_of_ble_eq_true rfl) ?_
  intro p e s m below meth c0 hx hb hr hml hown hlocks hnm hts hP hK hD hN hsz hA hS ls hl
  subst hsz
  have hl : lv_has ls 2 [(0, .ref qg), (1, .int k)] := hl
  have hiX2 : ∀ w ∈ wsX20, w ∈ wsX2_init := by decide +kernel
  generalize hQ : MQ _ _ _ _ _ _ _ = Q
  refine lv_aload_n hx hb dX2_init_0 rfl (lv_at hl 0 rfl) ?_
  refine W.objInit hx hb hown (hts (.methodLink RX2 3 objectInit) (by decide +kernel)) (hts (.instanceMethod objectInit) (by decide +kernel)) (hts _ (List.mem_of_getElem? (i := 3) rfl)) rfl (by rw [hml]; exact hl.1) rfl dX2_init_1 (Nat.le_of_ble_eq_true rfl) (Nat.le_of_ble_eq_true rfl) ?_
  refine W.eq (g2 := F0 m 4 ls []) rfl ?_
  refine lv_aload_n hx hb dX2_init_4 rfl (lv_at hl 0 rfl) ?_
  refine lv_iload_n hx hb dX2_init_5 rfl (lv_at hl 1 rfl) ?_
  refine va_putF (D := (dC, dI)) (ci := 2) (v := .int k) (ty := .int) (C := RX2) (T := TX2) (N := 4) hx hb hts hiX2 tyX2 tyX2_ok nmX2 hown hK hP hD hS 0 rfl rfl 0 (by decide) (hts (.fieldLink RX2 9 "TributePitches$Gang" "number" "I") (by decide +kernel)) (fun _ h9 => h9) rfl hnm rfl (by decide +kernel) rfl rfl (Nat.le_of_ble_eq_true rfl) dX2_init_6 (fun H locs hP hD hS => ?_)
  have hP : va_P (dC, dI) vwCl [(qg, .inr (2, [.int k, .int 0, .int 0, .long 0]))] H := hP
  have hD : va_D _ [(qg, .inr (2, [.int k, .int 0, .int 0, .long 0]))] := hD
  subst hQ
  have hP9 := hP.sub (ws' := [(qg, .inr (2, [.int k, .int 0, .int 0, .long 0]))]) [0] rfl
  have hD9 := hD.sub (ws' := [(qg, .inr (2, [.int k, .int 0, .int 0, .long 0]))]) [0] (by decide) rfl
  have hK9 := hK.sub (tys' := []) [] rfl
  exact W.vret hx hb hr (fun t ht hW => ⟨⟨(), rfl, trivial, ⟨by rw [ht]; exact hP9, va_K.moved hW.alike hK9, hD9⟩⟩, hS.F ht⟩) hS.2.2 dX2_init_9
set_option maxHeartbeats 4000000 in
set_option maxRecDepth 100000 in
theorem c_X2_init1 (l : Launch) (dC : Nat → ClassId) (dI : Nat → Nat → Nat)  (sz : Nat) (qg : Nat) (k : Int32)  : Met l yX2_init wsX2_init ({ frames := 1, cells := 0, slots := 0, locals := 12 }) (pw (dC, dI) [] [(qg, .inr (1, [.int 0, .int 0, .int 0, .long 0]))] sz [.ref qg, .int k]) (va_Qv (fun (_ : Unit) => True) (fun _ t => bw (dC, dI) [] (va_A [(qg, .inr (1, [.int 0, .int 0, .int 0, .long 0]))] sz) [(qg, .inr (1, [.int k, .int 0, .int 0, .long 0]))] t) (va_A [(qg, .inr (1, [.int 0, .int 0, .int 0, .long 0]))] sz)) 0 0 (va_A [(qg, .inr (1, [.int 0, .int 0, .int 0, .long 0]))] sz) := by
  refine pw_met (cc := cX2_init) (maxL := 2) (ret := none) (by decide) rfl (Nat.le_of_ble_eq_true rfl) ?_
  intro p e s m below meth c0 hx hb hr hml hown hlocks hnm hts hP hK hD hN hsz hA hS ls hl
  subst hsz
  have hl : lv_has ls 2 [(0, .ref qg), (1, .int k)] := hl
  have hiX1 : ∀ w ∈ wsX10, w ∈ wsX2_init := by decide +kernel
  generalize hQ : MQ _ _ _ _ _ _ _ = Q
  refine lv_aload_n hx hb dX2_init_0 rfl (lv_at hl 0 rfl) ?_
  refine W.objInit hx hb hown (hts (.methodLink RX2 3 objectInit) (by decide +kernel)) (hts (.instanceMethod objectInit) (by decide +kernel)) (hts _ (List.mem_of_getElem? (i := 3) rfl)) rfl (by rw [hml]; exact hl.1) rfl dX2_init_1 (Nat.le_of_ble_eq_true rfl) (Nat.le_of_ble_eq_true rfl) ?_
  refine W.eq (g2 := F0 m 4 ls []) rfl ?_
  refine lv_aload_n hx hb dX2_init_4 rfl (lv_at hl 0 rfl) ?_
  refine lv_iload_n hx hb dX2_init_5 rfl (lv_at hl 1 rfl) ?_
  refine va_putF (D := (dC, dI)) (ci := 1) (v := .int k) (ty := .int) (C := RX1) (T := TX1) (N := 4) hx hb hts hiX1 tyX1 tyX1_ok nmX1 hown hK hP hD hS 0 rfl rfl 0 (by decide) (hts (.fieldLink RX2 9 "TributePitches$Gang" "number" "I") (by decide +kernel)) (fun _ h9 => h9) rfl hnm rfl (by decide +kernel) rfl rfl (Nat.le_of_ble_eq_true rfl) dX2_init_6 (fun H locs hP hD hS => ?_)
  have hP : va_P (dC, dI) vwCl [(qg, .inr (1, [.int k, .int 0, .int 0, .long 0]))] H := hP
  have hD : va_D _ [(qg, .inr (1, [.int k, .int 0, .int 0, .long 0]))] := hD
  subst hQ
  have hP9 := hP.sub (ws' := [(qg, .inr (1, [.int k, .int 0, .int 0, .long 0]))]) [0] rfl
  have hD9 := hD.sub (ws' := [(qg, .inr (1, [.int k, .int 0, .int 0, .long 0]))]) [0] (by decide) rfl
  have hK9 := hK.sub (tys' := []) [] rfl
  exact W.vret hx hb hr (fun t ht hW => ⟨⟨(), rfl, trivial, ⟨by rw [ht]; exact hP9, va_K.moved hW.alike hK9, hD9⟩⟩, hS.F ht⟩) hS.2.2 dX2_init_9
set_option maxHeartbeats 4000000 in
set_option maxRecDepth 100000 in
theorem c_X2_init4 (l : Launch) (dC : Nat → ClassId) (dI : Nat → Nat → Nat)  (sz : Nat) (qg : Nat) (k : Int32)  : Met l yX2_init wsX2_init ({ frames := 1, cells := 0, slots := 0, locals := 12 }) (pw (dC, dI) [] [(qg, .inr (4, [.int 0, .int 0, .int 0, .long 0]))] sz [.ref qg, .int k]) (va_Qv (fun (_ : Unit) => True) (fun _ t => bw (dC, dI) [] (va_A [(qg, .inr (4, [.int 0, .int 0, .int 0, .long 0]))] sz) [(qg, .inr (4, [.int k, .int 0, .int 0, .long 0]))] t) (va_A [(qg, .inr (4, [.int 0, .int 0, .int 0, .long 0]))] sz)) 0 0 (va_A [(qg, .inr (4, [.int 0, .int 0, .int 0, .long 0]))] sz) := by
  refine pw_met (cc := cX2_init) (maxL := 2) (ret := none) (by decide) rfl (Nat.le_of_ble_eq_true rfl) ?_
  intro p e s m below meth c0 hx hb hr hml hown hlocks hnm hts hP hK hD hN hsz hA hS ls hl
  subst hsz
  have hl : lv_has ls 2 [(0, .ref qg), (1, .int k)] := hl
  have hiX4 : ∀ w ∈ wsX40, w ∈ wsX2_init := by decide +kernel
  generalize hQ : MQ _ _ _ _ _ _ _ = Q
  refine lv_aload_n hx hb dX2_init_0 rfl (lv_at hl 0 rfl) ?_
  refine W.objInit hx hb hown (hts (.methodLink RX2 3 objectInit) (by decide +kernel)) (hts (.instanceMethod objectInit) (by decide +kernel)) (hts _ (List.mem_of_getElem? (i := 3) rfl)) rfl (by rw [hml]; exact hl.1) rfl dX2_init_1 (Nat.le_of_ble_eq_true rfl) (Nat.le_of_ble_eq_true rfl) ?_
  refine W.eq (g2 := F0 m 4 ls []) rfl ?_
  refine lv_aload_n hx hb dX2_init_4 rfl (lv_at hl 0 rfl) ?_
  refine lv_iload_n hx hb dX2_init_5 rfl (lv_at hl 1 rfl) ?_
  refine va_putF (D := (dC, dI)) (ci := 4) (v := .int k) (ty := .int) (C := RX4) (T := TX4) (N := 4) hx hb hts hiX4 tyX4 tyX4_ok nmX4 hown hK hP hD hS 0 rfl rfl 0 (by decide) (hts (.fieldLink RX2 9 "TributePitches$Gang" "number" "I") (by decide +kernel)) (fun _ h9 => h9) rfl hnm rfl (by decide +kernel) rfl rfl (Nat.le_of_ble_eq_true rfl) dX2_init_6 (fun H locs hP hD hS => ?_)
  have hP : va_P (dC, dI) vwCl [(qg, .inr (4, [.int k, .int 0, .int 0, .long 0]))] H := hP
  have hD : va_D _ [(qg, .inr (4, [.int k, .int 0, .int 0, .long 0]))] := hD
  subst hQ
  have hP9 := hP.sub (ws' := [(qg, .inr (4, [.int k, .int 0, .int 0, .long 0]))]) [0] rfl
  have hD9 := hD.sub (ws' := [(qg, .inr (4, [.int k, .int 0, .int 0, .long 0]))]) [0] (by decide) rfl
  have hK9 := hK.sub (tys' := []) [] rfl
  exact W.vret hx hb hr (fun t ht hW => ⟨⟨(), rfl, trivial, ⟨by rw [ht]; exact hP9, va_K.moved hW.alike hK9, hD9⟩⟩, hS.F ht⟩) hS.2.2 dX2_init_9
set_option maxHeartbeats 4000000 in
set_option maxRecDepth 100000 in
theorem c_X1_init (l : Launch) (dC : Nat → ClassId) (dI : Nat → Nat → Nat)  (sz : Nat) (qg : Nat) (k : Int32)  : Met l yX1_init wsX1_init ({ frames := 2, cells := 0, slots := 0, locals := 40 }) (pw (dC, dI) [] [(qg, .inr (1, [.int 0, .int 0, .int 0, .long 0]))] sz [.ref qg, .int k]) (va_Qv (fun (_ : Unit) => True) (fun _ t => bw (dC, dI) [] (va_A [(qg, .inr (1, [.int 0, .int 0, .int 0, .long 0]))] sz) [(qg, .inr (1, [.int k, .int 0, .int 0, .long 0]))] t) (va_A [(qg, .inr (1, [.int 0, .int 0, .int 0, .long 0]))] sz)) 0 0 (va_A [(qg, .inr (1, [.int 0, .int 0, .int 0, .long 0]))] sz) := by
  refine pw_met (cc := cX1_init) (maxL := 2) (ret := none) (by decide) rfl (Nat.le_of_ble_eq_true rfl) ?_
  intro p e s m below meth c0 hx hb hr hml hown hlocks hnm hts hP hK hD hN hsz hA hS ls hl
  subst hsz
  have hl : lv_has ls 2 [(0, .ref qg), (1, .int k)] := hl
  generalize hQ : MQ _ _ _ _ _ _ _ = Q
  refine lv_aload_n hx hb dX1_init_0 rfl (lv_at hl 0 rfl) ?_
  refine lv_iload_n hx hb dX1_init_1 rfl (lv_at hl 1 rfl) ?_
  have hPc := hP.sub (ws' := [(qg, .inr (1, [.int 0, .int 0, .int 0, .long 0]))]) [0] rfl
  have hDc := hD.sub (ws' := [(qg, .inr (1, [.int 0, .int 0, .int 0, .long 0]))]) [0] (by decide) rfl
  have hKc := hK.sub (tys' := []) [] rfl
  have hFc := va_free (wc := [(qg, .inr (1, [.int 0, .int 0, .int 0, .long 0]))]) hD hS hA [0] rfl
  refine va_callv (va_runI (As := [.int k]) (rest := []) ⟨hx, hb, hml, hown, hts⟩ (c_X2_init1 l dC dI  _ qg k ) (cwI 1 hts gX1_init_X2_init rfl rfl rfl (hts (.initialized RX2) (by decide +kernel)) (hts (.methodLink RX1 1 yX2_init) (by decide +kernel)) (hts (.instanceMethod yX2_init) (by decide +kernel)) rfl (by decide +kernel) ⟨Nat.le_of_ble_eq_true rfl, Nat.le_of_ble_eq_true rfl⟩) (pw_preS hPc hKc hDc hN) rfl rfl hl.1 rfl (lv_room (Nat.le_of_ble_eq_true rfl)) dX1_init_2 ⟨Nat.le_of_ble_eq_true rfl, Nat.le_of_ble_eq_true rfl⟩) hS (fun q _ h => hFc q h) hFc (fun u t H1 locs ht hvm hw hB hz1 hk1 hS => ?_)
  obtain ⟨hP1, hK1, hD1⟩ := hB
  rw [ht] at hP1
  obtain ⟨hP, hD⟩ := va_join (wr := []) (w1 := [(qg, .inr (1, [.int k, .int 0, .int 0, .long 0]))]) hP hD [0] [] rfl rfl (by decide) (by decide) hk1 hFc hP1 hD1
  generalize H1 = H at hP hS ⊢
  have hP : va_P (dC, dI) vwCl [(qg, .inr (1, [.int k, .int 0, .int 0, .long 0]))] H := hP
  have hD : va_D _ [(qg, .inr (1, [.int k, .int 0, .int 0, .long 0]))] := hD
  subst hQ
  have hP9 := hP.sub (ws' := [(qg, .inr (1, [.int k, .int 0, .int 0, .long 0]))]) [0] rfl
  have hD9 := hD.sub (ws' := [(qg, .inr (1, [.int k, .int 0, .int 0, .long 0]))]) [0] (by decide) rfl
  have hK9 := hK.sub (tys' := []) [] rfl
  exact W.vret hx hb hr (fun t ht hW => ⟨⟨(), rfl, trivial, ⟨by rw [ht]; exact hP9, va_K.moved hW.alike hK9, hD9⟩⟩, hS.F ht⟩) hS.2.2 dX1_init_5
set_option maxHeartbeats 4000000 in
set_option maxRecDepth 100000 in
theorem c_X1_init4 (l : Launch) (dC : Nat → ClassId) (dI : Nat → Nat → Nat)  (sz : Nat) (qg : Nat) (k : Int32)  : Met l yX1_init wsX1_init ({ frames := 2, cells := 0, slots := 0, locals := 40 }) (pw (dC, dI) [] [(qg, .inr (4, [.int 0, .int 0, .int 0, .long 0]))] sz [.ref qg, .int k]) (va_Qv (fun (_ : Unit) => True) (fun _ t => bw (dC, dI) [] (va_A [(qg, .inr (4, [.int 0, .int 0, .int 0, .long 0]))] sz) [(qg, .inr (4, [.int k, .int 0, .int 0, .long 0]))] t) (va_A [(qg, .inr (4, [.int 0, .int 0, .int 0, .long 0]))] sz)) 0 0 (va_A [(qg, .inr (4, [.int 0, .int 0, .int 0, .long 0]))] sz) := by
  refine pw_met (cc := cX1_init) (maxL := 2) (ret := none) (by decide) rfl (Nat.le_of_ble_eq_true rfl) ?_
  intro p e s m below meth c0 hx hb hr hml hown hlocks hnm hts hP hK hD hN hsz hA hS ls hl
  subst hsz
  have hl : lv_has ls 2 [(0, .ref qg), (1, .int k)] := hl
  generalize hQ : MQ _ _ _ _ _ _ _ = Q
  refine lv_aload_n hx hb dX1_init_0 rfl (lv_at hl 0 rfl) ?_
  refine lv_iload_n hx hb dX1_init_1 rfl (lv_at hl 1 rfl) ?_
  have hPc := hP.sub (ws' := [(qg, .inr (4, [.int 0, .int 0, .int 0, .long 0]))]) [0] rfl
  have hDc := hD.sub (ws' := [(qg, .inr (4, [.int 0, .int 0, .int 0, .long 0]))]) [0] (by decide) rfl
  have hKc := hK.sub (tys' := []) [] rfl
  have hFc := va_free (wc := [(qg, .inr (4, [.int 0, .int 0, .int 0, .long 0]))]) hD hS hA [0] rfl
  refine va_callv (va_runI (As := [.int k]) (rest := []) ⟨hx, hb, hml, hown, hts⟩ (c_X2_init4 l dC dI  _ qg k ) (cwI 1 hts gX1_init_X2_init rfl rfl rfl (hts (.initialized RX2) (by decide +kernel)) (hts (.methodLink RX1 1 yX2_init) (by decide +kernel)) (hts (.instanceMethod yX2_init) (by decide +kernel)) rfl (by decide +kernel) ⟨Nat.le_of_ble_eq_true rfl, Nat.le_of_ble_eq_true rfl⟩) (pw_preS hPc hKc hDc hN) rfl rfl hl.1 rfl (lv_room (Nat.le_of_ble_eq_true rfl)) dX1_init_2 ⟨Nat.le_of_ble_eq_true rfl, Nat.le_of_ble_eq_true rfl⟩) hS (fun q _ h => hFc q h) hFc (fun u t H1 locs ht hvm hw hB hz1 hk1 hS => ?_)
  obtain ⟨hP1, hK1, hD1⟩ := hB
  rw [ht] at hP1
  obtain ⟨hP, hD⟩ := va_join (wr := []) (w1 := [(qg, .inr (4, [.int k, .int 0, .int 0, .long 0]))]) hP hD [0] [] rfl rfl (by decide) (by decide) hk1 hFc hP1 hD1
  generalize H1 = H at hP hS ⊢
  have hP : va_P (dC, dI) vwCl [(qg, .inr (4, [.int k, .int 0, .int 0, .long 0]))] H := hP
  have hD : va_D _ [(qg, .inr (4, [.int k, .int 0, .int 0, .long 0]))] := hD
  subst hQ
  have hP9 := hP.sub (ws' := [(qg, .inr (4, [.int k, .int 0, .int 0, .long 0]))]) [0] rfl
  have hD9 := hD.sub (ws' := [(qg, .inr (4, [.int k, .int 0, .int 0, .long 0]))]) [0] (by decide) rfl
  have hK9 := hK.sub (tys' := []) [] rfl
  exact W.vret hx hb hr (fun t ht hW => ⟨⟨(), rfl, trivial, ⟨by rw [ht]; exact hP9, va_K.moved hW.alike hK9, hD9⟩⟩, hS.F ht⟩) hS.2.2 dX1_init_5
set_option maxHeartbeats 4000000 in
set_option maxRecDepth 100000 in
theorem c_X4_init (l : Launch) (dC : Nat → ClassId) (dI : Nat → Nat → Nat)  (sz : Nat) (qg : Nat) (k : Int32)  : Met l yX4_init wsX4_init ({ frames := 3, cells := 0, slots := 0, locals := 70 }) (pw (dC, dI) [] [(qg, .inr (4, [.int 0, .int 0, .int 0, .long 0]))] sz [.ref qg, .int k]) (va_Qv (fun (_ : Unit) => True) (fun _ t => bw (dC, dI) [] (va_A [(qg, .inr (4, [.int 0, .int 0, .int 0, .long 0]))] sz) [(qg, .inr (4, [.int k, .int 0, .int 0, .long 0]))] t) (va_A [(qg, .inr (4, [.int 0, .int 0, .int 0, .long 0]))] sz)) 0 0 (va_A [(qg, .inr (4, [.int 0, .int 0, .int 0, .long 0]))] sz) := by
  refine pw_met (cc := cX4_init) (maxL := 2) (ret := none) (by decide) rfl (Nat.le_of_ble_eq_true rfl) ?_
  intro p e s m below meth c0 hx hb hr hml hown hlocks hnm hts hP hK hD hN hsz hA hS ls hl
  subst hsz
  have hl : lv_has ls 2 [(0, .ref qg), (1, .int k)] := hl
  generalize hQ : MQ _ _ _ _ _ _ _ = Q
  refine lv_aload_n hx hb dX4_init_0 rfl (lv_at hl 0 rfl) ?_
  refine lv_iload_n hx hb dX4_init_1 rfl (lv_at hl 1 rfl) ?_
  have hPc := hP.sub (ws' := [(qg, .inr (4, [.int 0, .int 0, .int 0, .long 0]))]) [0] rfl
  have hDc := hD.sub (ws' := [(qg, .inr (4, [.int 0, .int 0, .int 0, .long 0]))]) [0] (by decide) rfl
  have hKc := hK.sub (tys' := []) [] rfl
  have hFc := va_free (wc := [(qg, .inr (4, [.int 0, .int 0, .int 0, .long 0]))]) hD hS hA [0] rfl
  refine va_callv (va_runI (As := [.int k]) (rest := []) ⟨hx, hb, hml, hown, hts⟩ (c_X1_init4 l dC dI  _ qg k ) (cwI 1 hts gX4_init_X1_init rfl rfl rfl (hts (.initialized RX1) (by decide +kernel)) (hts (.methodLink RX4 1 yX1_init) (by decide +kernel)) (hts (.instanceMethod yX1_init) (by decide +kernel)) rfl (by decide +kernel) ⟨Nat.le_of_ble_eq_true rfl, Nat.le_of_ble_eq_true rfl⟩) (pw_preS hPc hKc hDc hN) rfl rfl hl.1 rfl (lv_room (Nat.le_of_ble_eq_true rfl)) dX4_init_2 ⟨Nat.le_of_ble_eq_true rfl, Nat.le_of_ble_eq_true rfl⟩) hS (fun q _ h => hFc q h) hFc (fun u t H1 locs ht hvm hw hB hz1 hk1 hS => ?_)
  obtain ⟨hP1, hK1, hD1⟩ := hB
  rw [ht] at hP1
  obtain ⟨hP, hD⟩ := va_join (wr := []) (w1 := [(qg, .inr (4, [.int k, .int 0, .int 0, .long 0]))]) hP hD [0] [] rfl rfl (by decide) (by decide) hk1 hFc hP1 hD1
  generalize H1 = H at hP hS ⊢
  have hP : va_P (dC, dI) vwCl [(qg, .inr (4, [.int k, .int 0, .int 0, .long 0]))] H := hP
  have hD : va_D _ [(qg, .inr (4, [.int k, .int 0, .int 0, .long 0]))] := hD
  subst hQ
  have hP9 := hP.sub (ws' := [(qg, .inr (4, [.int k, .int 0, .int 0, .long 0]))]) [0] rfl
  have hD9 := hD.sub (ws' := [(qg, .inr (4, [.int k, .int 0, .int 0, .long 0]))]) [0] (by decide) rfl
  have hK9 := hK.sub (tys' := []) [] rfl
  exact W.vret hx hb hr (fun t ht hW => ⟨⟨(), rfl, trivial, ⟨by rw [ht]; exact hP9, va_K.moved hW.alike hK9, hD9⟩⟩, hS.F ht⟩) hS.2.2 dX4_init_5
set_option maxHeartbeats 4000000 in
set_option maxRecDepth 100000 in
theorem s_newGang_4 (l : Launch) (dC : Nat → ClassId) (dI : Nat → Nat → Nat)  (sz : Nat) (n : Int32)  : Met l yX10_newGang wsX10_newGang ({ frames := 4, cells := 1, slots := 4, locals := 120 }) (pw (dC, dI) [] [] sz [.int 2, .int n]) (va_Qr (fun (_ : Unit) => True) (fun _ ra t => bw (dC, dI) [] (va_A [] sz) [(ra, .inr (4, [.int n, .int 0, .int 0, .long 0]))] t) (va_A [] sz)) 1 4 (va_A [] sz) := by
  refine pw_met (cc := cX10_newGang) (maxL := 2) (ret := (some (.object "TributePitches$Gang"))) (by decide) rfl (Nat.le_of_ble_eq_true rfl) ?_
  intro p e s m below meth c0 hx hb hr hml hown hlocks hnm hts hP hK hD hN hsz hA hS ls hl
  subst hsz
  have hl : lv_has ls 2 [(0, .int 2), (1, .int n)] := hl
  have hiX4 : ∀ w ∈ wsX40, w ∈ wsX10_newGang := by decide +kernel
  generalize hQ : MQ _ _ _ _ _ _ _ = Q
  refine lv_iload_n hx hb dX10_newGang_0 rfl (lv_at hl 0 rfl) ?_
  refine lv_lookup (off := 27) (tgt := 28) hx hb dX10_newGang_1 (by decide) (by decide) (by decide) ?_
  refine va_new (ci := 4) (fs := [.int 0, .int 0, .int 0, .long 0]) (C := RX4) (T := TX4) (N := 4) hx hb hts hiX4 tyX4 tyX4_ok hown (hts (.classLink RX10 150 RX4) (by decide +kernel)) (hts (.instantiable RX4 4) (by decide +kernel)) (hts (.initialized RX4) (by decide +kernel)) hK hP hD hS hA rfl (fun j hj => by rcases (show j = 0 ∨ j = 1 ∨ j = 2 ∨ j = 3 by omega) with rfl | rfl | rfl | rfl <;> rfl) (Nat.le_of_ble_eq_true rfl) (Nat.le_of_ble_eq_true rfl) dX10_newGang_28 (fun qg H hP hD hS => ?_)
  have hP : va_P (dC, dI) vwCl [(qg, .inr (4, [.int 0, .int 0, .int 0, .long 0]))] H := hP
  have hD : va_D _ [(qg, .inr (4, [.int 0, .int 0, .int 0, .long 0]))] := hD
  refine lv_dup hx hb dX10_newGang_31 rfl ?_
  refine lv_iload_n hx hb dX10_newGang_32 rfl (lv_at hl 1 rfl) ?_
  have hPc := hP.sub (ws' := [(qg, .inr (4, [.int 0, .int 0, .int 0, .long 0]))]) [0] rfl
  have hDc := hD.sub (ws' := [(qg, .inr (4, [.int 0, .int 0, .int 0, .long 0]))]) [0] (by decide) rfl
  have hKc := hK.sub (tys' := []) [] rfl
  have hFc := va_free (wc := [(qg, .inr (4, [.int 0, .int 0, .int 0, .long 0]))]) hD hS hA [0] rfl
  refine va_callv (va_runI (As := [.int n]) (rest := [.ref qg]) ⟨hx, hb, hml, hown, hts⟩ (c_X4_init l dC dI  _ qg n ) (cwI 1 hts gX10_newGang_X4_init rfl rfl rfl (hts (.initialized RX4) (by decide +kernel)) (hts (.methodLink RX10 152 yX4_init) (by decide +kernel)) (hts (.instanceMethod yX4_init) (by decide +kernel)) rfl (by decide +kernel) ⟨Nat.le_of_ble_eq_true rfl, Nat.le_of_ble_eq_true rfl⟩) (pw_preS hPc hKc hDc hN) rfl rfl hl.1 rfl (lv_room (Nat.le_of_ble_eq_true rfl)) dX10_newGang_33 ⟨Nat.le_of_ble_eq_true rfl, Nat.le_of_ble_eq_true rfl⟩) hS (fun q _ h => hFc q h) hFc (fun u t H1 locs ht hvm hw hB hz1 hk1 hS => ?_)
  obtain ⟨hP1, hK1, hD1⟩ := hB
  rw [ht] at hP1
  obtain ⟨hP, hD⟩ := va_join (wr := []) (w1 := [(qg, .inr (4, [.int n, .int 0, .int 0, .long 0]))]) hP hD [0] [] rfl rfl (by decide) (by decide) hk1 hFc hP1 hD1
  generalize H1 = H at hP hS ⊢
  have hP : va_P (dC, dI) vwCl [(qg, .inr (4, [.int n, .int 0, .int 0, .long 0]))] H := hP
  have hD : va_D _ [(qg, .inr (4, [.int n, .int 0, .int 0, .long 0]))] := hD
  subst hQ
  have hP9 := hP.sub (ws' := [(qg, .inr (4, [.int n, .int 0, .int 0, .long 0]))]) [0] rfl
  have hD9 := hD.sub (ws' := [(qg, .inr (4, [.int n, .int 0, .int 0, .long 0]))]) [0] (by decide) rfl
  have hK9 := hK.sub (tys' := []) [] rfl
  exact W.aret (v := .ref qg) hx hb hr (Or.inl ⟨_, rfl⟩) (Or.inr ⟨_, rfl⟩) (fun t ht hW => ⟨⟨(), qg, rfl, trivial, by rw [ht]; exact hP9, va_K.moved hW.alike hK9, hD9⟩, hS.F ht⟩) hS.2.2 dX10_newGang_36
set_option maxHeartbeats 4000000 in
set_option maxRecDepth 100000 in
theorem s_newGang_1 (l : Launch) (dC : Nat → ClassId) (dI : Nat → Nat → Nat)  (sz : Nat) (n : Int32)  : Met l yX10_newGang wsX10_newGang ({ frames := 4, cells := 1, slots := 4, locals := 120 }) (pw (dC, dI) [] [] sz [.int 1, .int n]) (va_Qr (fun (_ : Unit) => True) (fun _ ra t => bw (dC, dI) [] (va_A [] sz) [(ra, .inr (1, [.int n, .int 0, .int 0, .long 0]))] t) (va_A [] sz)) 1 4 (va_A [] sz) := by
  refine pw_met (cc := cX10_newGang) (maxL := 2) (ret := (some (.object "TributePitches$Gang"))) (by decide) rfl (Nat.le_of_ble_eq_true rfl) ?_
  intro p e s m below meth c0 hx hb hr hml hown hlocks hnm hts hP hK hD hN hsz hA hS ls hl
  subst hsz
  have hl : lv_has ls 2 [(0, .int 1), (1, .int n)] := hl
  have hiX1 : ∀ w ∈ wsX10, w ∈ wsX10_newGang := by decide +kernel
  generalize hQ : MQ _ _ _ _ _ _ _ = Q
  refine lv_iload_n hx hb dX10_newGang_0 rfl (lv_at hl 0 rfl) ?_
  refine lv_lookup (off := 36) (tgt := 37) hx hb dX10_newGang_1 (by decide) (by decide) (by decide) ?_
  refine va_new (ci := 1) (fs := [.int 0, .int 0, .int 0, .long 0]) (C := RX1) (T := TX1) (N := 4) hx hb hts hiX1 tyX1 tyX1_ok hown (hts (.classLink RX10 155 RX1) (by decide +kernel)) (hts (.instantiable RX1 4) (by decide +kernel)) (hts (.initialized RX1) (by decide +kernel)) hK hP hD hS hA rfl (fun j hj => by rcases (show j = 0 ∨ j = 1 ∨ j = 2 ∨ j = 3 by omega) with rfl | rfl | rfl | rfl <;> rfl) (Nat.le_of_ble_eq_true rfl) (Nat.le_of_ble_eq_true rfl) dX10_newGang_37 (fun qg H hP hD hS => ?_)
  have hP : va_P (dC, dI) vwCl [(qg, .inr (1, [.int 0, .int 0, .int 0, .long 0]))] H := hP
  have hD : va_D _ [(qg, .inr (1, [.int 0, .int 0, .int 0, .long 0]))] := hD
  refine lv_dup hx hb dX10_newGang_40 rfl ?_
  refine lv_iload_n hx hb dX10_newGang_41 rfl (lv_at hl 1 rfl) ?_
  have hPc := hP.sub (ws' := [(qg, .inr (1, [.int 0, .int 0, .int 0, .long 0]))]) [0] rfl
  have hDc := hD.sub (ws' := [(qg, .inr (1, [.int 0, .int 0, .int 0, .long 0]))]) [0] (by decide) rfl
  have hKc := hK.sub (tys' := []) [] rfl
  have hFc := va_free (wc := [(qg, .inr (1, [.int 0, .int 0, .int 0, .long 0]))]) hD hS hA [0] rfl
  refine va_callv (va_runI (As := [.int n]) (rest := [.ref qg]) ⟨hx, hb, hml, hown, hts⟩ (c_X1_init l dC dI  _ qg n ) (cwI 1 hts gX10_newGang_X1_init rfl rfl rfl (hts (.initialized RX1) (by decide +kernel)) (hts (.methodLink RX10 157 yX1_init) (by decide +kernel)) (hts (.instanceMethod yX1_init) (by decide +kernel)) rfl (by decide +kernel) ⟨Nat.le_of_ble_eq_true rfl, Nat.le_of_ble_eq_true rfl⟩) (pw_preS hPc hKc hDc hN) rfl rfl hl.1 rfl (lv_room (Nat.le_of_ble_eq_true rfl)) dX10_newGang_42 ⟨Nat.le_of_ble_eq_true rfl, Nat.le_of_ble_eq_true rfl⟩) hS (fun q _ h => hFc q h) hFc (fun u t H1 locs ht hvm hw hB hz1 hk1 hS => ?_)
  obtain ⟨hP1, hK1, hD1⟩ := hB
  rw [ht] at hP1
  obtain ⟨hP, hD⟩ := va_join (wr := []) (w1 := [(qg, .inr (1, [.int n, .int 0, .int 0, .long 0]))]) hP hD [0] [] rfl rfl (by decide) (by decide) hk1 hFc hP1 hD1
  generalize H1 = H at hP hS ⊢
  have hP : va_P (dC, dI) vwCl [(qg, .inr (1, [.int n, .int 0, .int 0, .long 0]))] H := hP
  have hD : va_D _ [(qg, .inr (1, [.int n, .int 0, .int 0, .long 0]))] := hD
  subst hQ
  have hP9 := hP.sub (ws' := [(qg, .inr (1, [.int n, .int 0, .int 0, .long 0]))]) [0] rfl
  have hD9 := hD.sub (ws' := [(qg, .inr (1, [.int n, .int 0, .int 0, .long 0]))]) [0] (by decide) rfl
  have hK9 := hK.sub (tys' := []) [] rfl
  exact W.aret (v := .ref qg) hx hb hr (Or.inl ⟨_, rfl⟩) (Or.inr ⟨_, rfl⟩) (fun t ht hW => ⟨⟨(), qg, rfl, trivial, by rw [ht]; exact hP9, va_K.moved hW.alike hK9, hD9⟩, hS.F ht⟩) hS.2.2 dX10_newGang_45
set_option maxHeartbeats 4000000 in
set_option maxRecDepth 100000 in
theorem s_newGang_2 (l : Launch) (dC : Nat → ClassId) (dI : Nat → Nat → Nat)  (sz : Nat) (n : Int32)  : Met l yX10_newGang wsX10_newGang ({ frames := 4, cells := 1, slots := 4, locals := 120 }) (pw (dC, dI) [] [] sz [.int 0, .int n]) (va_Qr (fun (_ : Unit) => True) (fun _ ra t => bw (dC, dI) [] (va_A [] sz) [(ra, .inr (2, [.int n, .int 0, .int 0, .long 0]))] t) (va_A [] sz)) 1 4 (va_A [] sz) := by
  refine pw_met (cc := cX10_newGang) (maxL := 2) (ret := (some (.object "TributePitches$Gang"))) (by decide) rfl (Nat.le_of_ble_eq_true rfl) ?_
  intro p e s m below meth c0 hx hb hr hml hown hlocks hnm hts hP hK hD hN hsz hA hS ls hl
  subst hsz
  have hl : lv_has ls 2 [(0, .int 0), (1, .int n)] := hl
  have hiX2 : ∀ w ∈ wsX20, w ∈ wsX10_newGang := by decide +kernel
  generalize hQ : MQ _ _ _ _ _ _ _ = Q
  refine lv_iload_n hx hb dX10_newGang_0 rfl (lv_at hl 0 rfl) ?_
  refine lv_lookup (off := 45) (tgt := 46) hx hb dX10_newGang_1 (by decide) (by decide) (by decide) ?_
  refine va_new (ci := 2) (fs := [.int 0, .int 0, .int 0, .long 0]) (C := RX2) (T := TX2) (N := 4) hx hb hts hiX2 tyX2 tyX2_ok hown (hts (.classLink RX10 24 RX2) (by decide +kernel)) (hts (.instantiable RX2 4) (by decide +kernel)) (hts (.initialized RX2) (by decide +kernel)) hK hP hD hS hA rfl (fun j hj => by rcases (show j = 0 ∨ j = 1 ∨ j = 2 ∨ j = 3 by omega) with rfl | rfl | rfl | rfl <;> rfl) (Nat.le_of_ble_eq_true rfl) (Nat.le_of_ble_eq_true rfl) dX10_newGang_46 (fun qg H hP hD hS => ?_)
  have hP : va_P (dC, dI) vwCl [(qg, .inr (2, [.int 0, .int 0, .int 0, .long 0]))] H := hP
  have hD : va_D _ [(qg, .inr (2, [.int 0, .int 0, .int 0, .long 0]))] := hD
  refine lv_dup hx hb dX10_newGang_49 rfl ?_
  refine lv_iload_n hx hb dX10_newGang_50 rfl (lv_at hl 1 rfl) ?_
  have hPc := hP.sub (ws' := [(qg, .inr (2, [.int 0, .int 0, .int 0, .long 0]))]) [0] rfl
  have hDc := hD.sub (ws' := [(qg, .inr (2, [.int 0, .int 0, .int 0, .long 0]))]) [0] (by decide) rfl
  have hKc := hK.sub (tys' := []) [] rfl
  have hFc := va_free (wc := [(qg, .inr (2, [.int 0, .int 0, .int 0, .long 0]))]) hD hS hA [0] rfl
  refine va_callv (va_runI (As := [.int n]) (rest := [.ref qg]) ⟨hx, hb, hml, hown, hts⟩ (c_X2_init l dC dI  _ qg n ) (cwI 1 hts gX10_newGang_X2_init rfl rfl rfl (hts (.initialized RX2) (by decide +kernel)) (hts (.methodLink RX10 158 yX2_init) (by decide +kernel)) (hts (.instanceMethod yX2_init) (by decide +kernel)) rfl (by decide +kernel) ⟨Nat.le_of_ble_eq_true rfl, Nat.le_of_ble_eq_true rfl⟩) (pw_preS hPc hKc hDc hN) rfl rfl hl.1 rfl (lv_room (Nat.le_of_ble_eq_true rfl)) dX10_newGang_51 ⟨Nat.le_of_ble_eq_true rfl, Nat.le_of_ble_eq_true rfl⟩) hS (fun q _ h => hFc q h) hFc (fun u t H1 locs ht hvm hw hB hz1 hk1 hS => ?_)
  obtain ⟨hP1, hK1, hD1⟩ := hB
  rw [ht] at hP1
  obtain ⟨hP, hD⟩ := va_join (wr := []) (w1 := [(qg, .inr (2, [.int n, .int 0, .int 0, .long 0]))]) hP hD [0] [] rfl rfl (by decide) (by decide) hk1 hFc hP1 hD1
  generalize H1 = H at hP hS ⊢
  have hP : va_P (dC, dI) vwCl [(qg, .inr (2, [.int n, .int 0, .int 0, .long 0]))] H := hP
  have hD : va_D _ [(qg, .inr (2, [.int n, .int 0, .int 0, .long 0]))] := hD
  subst hQ
  have hP9 := hP.sub (ws' := [(qg, .inr (2, [.int n, .int 0, .int 0, .long 0]))]) [0] rfl
  have hD9 := hD.sub (ws' := [(qg, .inr (2, [.int n, .int 0, .int 0, .long 0]))]) [0] (by decide) rfl
  have hK9 := hK.sub (tys' := []) [] rfl
  exact W.aret (v := .ref qg) hx hb hr (Or.inl ⟨_, rfl⟩) (Or.inr ⟨_, rfl⟩) (fun t ht hW => ⟨⟨(), qg, rfl, trivial, by rw [ht]; exact hP9, va_K.moved hW.alike hK9, hD9⟩, hS.F ht⟩) hS.2.2 dX10_newGang_54
set_option maxHeartbeats 4000000 in
set_option maxRecDepth 100000 in
theorem s_isOfKind_1 (l : Launch) (dC : Nat → ClassId) (dI : Nat → Nat → Nat)  (sz : Nat) (qg : Nat) (gn : Int32) (gt : Int32) (gl : Int32) (ow : Int64) (k : Int32)  : Met l yX10_isOfKind wsX10_isOfKind ({ frames := 0, cells := 0, slots := 0, locals := 0 }) (pw (dC, dI) [] [(qg, .inr (1, [.int gn, .int gt, .int gl, .long ow]))] sz [.ref qg, .int k]) (vp_Si (fun r => r = if ¬ (k = 2) then 1 else 0)) 0 0 (fun _ => False) := by
  refine pw_met (cc := cX10_isOfKind) (maxL := 2) (ret := (some .boolean)) (by decide) rfl (Nat.le_of_ble_eq_true rfl) ?_
  intro p e s m below meth c0 hx hb hr hml hown hlocks hnm hts hP hK hD hN hsz hA hS ls hl
  have hl : lv_has ls 2 [(0, .ref qg), (1, .int k)] := hl
  generalize hQ : MQ _ _ _ _ _ _ _ = Q
  refine lv_iload_n hx hb dX10_isOfKind_0 rfl (lv_at hl 1 rfl) ?_
  by_cases hw1 : k = 1
  · subst hw1
    refine lv_lookup (off := 32) (tgt := 33) hx hb dX10_isOfKind_1 (by decide) (by decide) (by decide) ?_
    refine lv_aload_n hx hb dX10_isOfKind_33 rfl (lv_at hl 0 rfl) ?_
    refine va_instS hx hb hown (hts (.classLink RX10 155 RX1) (by decide +kernel)) ((hK.1 1 _ rfl).2) (va_recv hK hP (ci := 1) (q0 := 0) rfl rfl) dX10_isOfKind_34 ?_
    subst hQ
    exact W.zret (v := 1) hx hb hr rfl (fun t ht hW => ⟨1, rfl, (by simp), ht⟩) (fun q h => absurd h List.not_mem_nil) dX10_isOfKind_37
  by_cases hw2 : k = 2
  · subst hw2
    refine lv_lookup (off := 27) (tgt := 28) hx hb dX10_isOfKind_1 (by decide) (by decide) (by decide) ?_
    refine lv_aload_n hx hb dX10_isOfKind_28 rfl (lv_at hl 0 rfl) ?_
    refine va_instNo hx hb hown (hts (.classLink RX10 150 RX4) (by decide +kernel)) hN.2.2.2.2.2.1 (va_recv hK hP (ci := 1) (q0 := 0) rfl rfl) dX10_isOfKind_29 ?_
    subst hQ
    exact W.zret (v := 0) hx hb hr rfl (fun t ht hW => ⟨0, rfl, (by simp), ht⟩) (fun q h => absurd h List.not_mem_nil) dX10_isOfKind_32
  refine lv_lookup (off := 37) (tgt := 38) hx hb dX10_isOfKind_1 (by decide) (by rw [lv_osw hw1 (by decide), lv_osw hw2 (by decide)]; rfl) (by decide) ?_
  refine lv_iconst (v := 1) hx hb dX10_isOfKind_38 (by decide) ?_
  subst hQ
  exact W.zret (v := 1) hx hb hr rfl (fun t ht hW => ⟨1, rfl, (by simp [hw1, hw2]), ht⟩) (fun q h => absurd h List.not_mem_nil) dX10_isOfKind_39
set_option maxHeartbeats 4000000 in
set_option maxRecDepth 100000 in
theorem s_isOfKind_2 (l : Launch) (dC : Nat → ClassId) (dI : Nat → Nat → Nat)  (sz : Nat) (qg : Nat) (gn : Int32) (gt : Int32) (gl : Int32) (ow : Int64) (k : Int32)  : Met l yX10_isOfKind wsX10_isOfKind ({ frames := 0, cells := 0, slots := 0, locals := 0 }) (pw (dC, dI) [] [(qg, .inr (2, [.int gn, .int gt, .int gl, .long ow]))] sz [.ref qg, .int k]) (vp_Si (fun r => r = if ¬ (k = 2 ∨ k = 1) then 1 else 0)) 0 0 (fun _ => False) := by
  refine pw_met (cc := cX10_isOfKind) (maxL := 2) (ret := (some .boolean)) (by decide) rfl (Nat.le_of_ble_eq_true rfl) ?_
  intro p e s m below meth c0 hx hb hr hml hown hlocks hnm hts hP hK hD hN hsz hA hS ls hl
  have hl : lv_has ls 2 [(0, .ref qg), (1, .int k)] := hl
  generalize hQ : MQ _ _ _ _ _ _ _ = Q
  refine lv_iload_n hx hb dX10_isOfKind_0 rfl (lv_at hl 1 rfl) ?_
  by_cases hw1 : k = 1
  · subst hw1
    refine lv_lookup (off := 32) (tgt := 33) hx hb dX10_isOfKind_1 (by decide) (by decide) (by decide) ?_
    refine lv_aload_n hx hb dX10_isOfKind_33 rfl (lv_at hl 0 rfl) ?_
    refine va_instNo hx hb hown (hts (.classLink RX10 155 RX1) (by decide +kernel)) hN.2.2.2.2.2.2.1 (va_recv hK hP (ci := 2) (q0 := 0) rfl rfl) dX10_isOfKind_34 ?_
    subst hQ
    exact W.zret (v := 0) hx hb hr rfl (fun t ht hW => ⟨0, rfl, (by simp), ht⟩) (fun q h => absurd h List.not_mem_nil) dX10_isOfKind_37
  by_cases hw2 : k = 2
  · subst hw2
    refine lv_lookup (off := 27) (tgt := 28) hx hb dX10_isOfKind_1 (by decide) (by decide) (by decide) ?_
    refine lv_aload_n hx hb dX10_isOfKind_28 rfl (lv_at hl 0 rfl) ?_
    refine va_instNo hx hb hown (hts (.classLink RX10 150 RX4) (by decide +kernel)) hN.2.2.2.2.2.2.2 (va_recv hK hP (ci := 2) (q0 := 0) rfl rfl) dX10_isOfKind_29 ?_
    subst hQ
    exact W.zret (v := 0) hx hb hr rfl (fun t ht hW => ⟨0, rfl, (by simp), ht⟩) (fun q h => absurd h List.not_mem_nil) dX10_isOfKind_32
  refine lv_lookup (off := 37) (tgt := 38) hx hb dX10_isOfKind_1 (by decide) (by rw [lv_osw hw1 (by decide), lv_osw hw2 (by decide)]; rfl) (by decide) ?_
  refine lv_iconst (v := 1) hx hb dX10_isOfKind_38 (by decide) ?_
  subst hQ
  exact W.zret (v := 1) hx hb hr rfl (fun t ht hW => ⟨1, rfl, (by simp [hw1, hw2]), ht⟩) (fun q h => absurd h List.not_mem_nil) dX10_isOfKind_39
set_option maxHeartbeats 4000000 in
set_option maxRecDepth 100000 in
theorem s_isOfKind_4 (l : Launch) (dC : Nat → ClassId) (dI : Nat → Nat → Nat)  (sz : Nat) (qg : Nat) (gn : Int32) (gt : Int32) (gl : Int32) (ow : Int64) (k : Int32)  : Met l yX10_isOfKind wsX10_isOfKind ({ frames := 0, cells := 0, slots := 0, locals := 0 }) (pw (dC, dI) [] [(qg, .inr (4, [.int gn, .int gt, .int gl, .long ow]))] sz [.ref qg, .int k]) (vp_Si (fun r => r = if k = k then 1 else 0)) 0 0 (fun _ => False) := by
  refine pw_met (cc := cX10_isOfKind) (maxL := 2) (ret := (some .boolean)) (by decide) rfl (Nat.le_of_ble_eq_true rfl) ?_
  intro p e s m below meth c0 hx hb hr hml hown hlocks hnm hts hP hK hD hN hsz hA hS ls hl
  have hl : lv_has ls 2 [(0, .ref qg), (1, .int k)] := hl
  generalize hQ : MQ _ _ _ _ _ _ _ = Q
  refine lv_iload_n hx hb dX10_isOfKind_0 rfl (lv_at hl 1 rfl) ?_
  by_cases hw1 : k = 1
  · subst hw1
    refine lv_lookup (off := 32) (tgt := 33) hx hb dX10_isOfKind_1 (by decide) (by decide) (by decide) ?_
    refine lv_aload_n hx hb dX10_isOfKind_33 rfl (lv_at hl 0 rfl) ?_
    refine va_instY hx hb hown (hts (.classLink RX10 155 RX1) (by decide +kernel)) hN.2.2.2.2.1 (va_recv hK hP (ci := 4) (q0 := 0) rfl rfl) dX10_isOfKind_34 ?_
    subst hQ
    exact W.zret (v := 1) hx hb hr rfl (fun t ht hW => ⟨1, rfl, (by simp), ht⟩) (fun q h => absurd h List.not_mem_nil) dX10_isOfKind_37
  by_cases hw2 : k = 2
  · subst hw2
    refine lv_lookup (off := 27) (tgt := 28) hx hb dX10_isOfKind_1 (by decide) (by decide) (by decide) ?_
    refine lv_aload_n hx hb dX10_isOfKind_28 rfl (lv_at hl 0 rfl) ?_
    refine va_instS hx hb hown (hts (.classLink RX10 150 RX4) (by decide +kernel)) ((hK.1 4 _ rfl).2) (va_recv hK hP (ci := 4) (q0 := 0) rfl rfl) dX10_isOfKind_29 ?_
    subst hQ
    exact W.zret (v := 1) hx hb hr rfl (fun t ht hW => ⟨1, rfl, (by simp), ht⟩) (fun q h => absurd h List.not_mem_nil) dX10_isOfKind_32
  refine lv_lookup (off := 37) (tgt := 38) hx hb dX10_isOfKind_1 (by decide) (by rw [lv_osw hw1 (by decide), lv_osw hw2 (by decide)]; rfl) (by decide) ?_
  refine lv_iconst (v := 1) hx hb dX10_isOfKind_38 (by decide) ?_
  subst hQ
  exact W.zret (v := 1) hx hb hr rfl (fun t ht hW => ⟨1, rfl, (by simp [hw1, hw2]), ht⟩) (fun q h => absurd h List.not_mem_nil) dX10_isOfKind_39
set_option maxHeartbeats 4000000 in
set_option maxRecDepth 100000 in
theorem s_foretoldBy (l : Launch) (dC : Nat → ClassId) (dI : Nat → Nat → Nat) (cI : ClassId) (sz : Nat) (qp : Nat) (ga : Nat) (p0 : Value) (p6 : Value) (p7 : Value) (x : Int32) (y : Int32) (xx : Int32) (yy : Int32) (xa : Nat) (wa : Nat) (ya : Nat) (ha : Nat) (tn : Int32) (g : Nat → Int32) (ex : x = nI xa) (exx : xx = nI (xa + wa)) (ey : y = nI ya) (eyy : yy = nI (ya + ha)) (hxw : xa + wa ≤ 7) (hyh : ya + ha ≤ 5) : Met l yX6_foretoldBy wsX6_foretoldBy ({ frames := 1, cells := 0, slots := 0, locals := 30 }) (pw (dC, dI) [(cI, .int)] [(qp, .inr (6, [p0, .int x, .int y, .int xx, .int yy, .int tn, p6, p7])), (ga, .inl (cI, 48, .inl g))] sz [.ref qp, .ref ga]) (vp_Sl (fun r => r = pacc g xa wa ya (ha + 1) * tn.toInt64)) 0 0 (fun _ => False) := by
  refine pw_met (cc := cX6_foretoldBy) (maxL := 6) (ret := (some .long)) (by decide) rfl (Nat.le_of_ble_eq_true rfl) ?_
  intro p e s m below meth c0 hx hb hr hml hown hlocks hnm hts hP hK hD hN hsz hA hS ls hl
  have hl : lv_has ls 6 [(0, .ref qp), (1, .ref ga)] := hl
  have hiX6 : ∀ w ∈ wsX60, w ∈ wsX6_foretoldBy := by decide +kernel
  generalize hQ : MQ _ _ _ _ _ _ _ = Q
  subst ex
  subst exx
  subst ey
  subst eyy
  have hP : va_P (dC, dI) vwCl [(qp, .inr (6, [p0, .int (nI xa), .int (nI ya), .int (nI (xa + wa)), .int (nI (ya + ha)), .int tn, p6, p7])), (ga, .inl (cI, 48, .inl g))] s.heap := hP
  have hD : va_D _ [(qp, .inr (6, [p0, .int (nI xa), .int (nI ya), .int (nI (xa + wa)), .int (nI (ya + ha)), .int tn, p6, p7])), (ga, .inl (cI, 48, .inl g))] := hD
  refine lv_lconst (v := 0) hx hb dX6_foretoldBy_0 (by decide) ?_
  refine lv_lstore_n (lv' := [(2, .long 0), (0, .ref qp), (1, .ref ga)]) hx hb dX6_foretoldBy_1 rfl hl (by decide) rfl (fun ls hl => ?_)
  refine lv_aload_n hx hb dX6_foretoldBy_2 rfl (lv_at hl 1 rfl) ?_
  refine va_get (D := (dC, dI)) (ci := 6) (v := .int (nI ya)) (C := RX6) (T := TX6) (N := 8) hx hb hts hiX6 hown hK hP 0 rfl rfl 2 (by decide) (hts (.fieldLink RX6 16 "TributePitches$Pitch" "y" "I") (by decide +kernel)) (fun _ h9 => h9) rfl dX6_foretoldBy_3 ?_
  refine lv_istore (lv' := [(4, .int (nI ya)), (2, .long 0), (0, .ref qp), (1, .ref ga)]) hx hb dX6_foretoldBy_6 hl (by decide) rfl (fun ls hl => ?_)
  have loop8 : ∀ (ni8 i8 : Nat) (ls : Array Slot), i8 ≤ (ha + 1) → (ha + 1) + 1 ≤ i8 + ni8 → lv_has ls 6 [(4, .int (nI (ya + i8))), (2, .long (pacc g xa wa ya i8)), (0, .ref qp), (1, .ref ga)] → W p l e ({ frames := 1, cells := 0, slots := 0, locals := 30 } : Room) s m ([.ref qp, .ref ga] : List Value).toArray below meth c0 s.heap [] 0 0 Q (F0 m 8 ls []) := by
    intro ni8
    induction ni8 with
    | zero =>
      intro i8  ls h1 h2
      exact absurd h2 (by omega)
    | succ ni8 ihi8 =>
      intro i8  ls hlei8 hni8  hl
      refine lv_iload hx hb dX6_foretoldBy_8 (lv_at hl 0 rfl) ?_
      refine lv_aload_n hx hb dX6_foretoldBy_10 rfl (lv_at hl 2 rfl) ?_
      refine va_get (D := (dC, dI)) (ci := 6) (v := .int (nI (ya + ha))) (C := RX6) (T := TX6) (N := 8) hx hb hts hiX6 hown hK hP 0 rfl rfl 4 (by decide) (hts (.fieldLink RX6 22 "TributePitches$Pitch" "y2" "I") (by decide +kernel)) (fun _ h9 => h9) rfl dX6_foretoldBy_11 ?_
      refine lv_icmp_gt (tgt := 57) hx hb dX6_foretoldBy_14 (by decide) (fun c1 => ?_) (fun c1 => ?_)
      · skip
        have hei8 : i8 = ha + 1 := (by have q := nI_lt_of (by omega) (by omega) c1; omega)
        subst hei8
        refine lv_lload_n hx hb dX6_foretoldBy_57 rfl (lv_at hl 1 rfl) ?_
        refine lv_aload_n hx hb dX6_foretoldBy_58 rfl (lv_at hl 2 rfl) ?_
        refine va_get (D := (dC, dI)) (ci := 6) (v := .int tn) (C := RX6) (T := TX6) (N := 8) hx hb hts hiX6 hown hK hP 0 rfl rfl 5 (by decide) (hts (.fieldLink RX6 25 "TributePitches$Pitch" "tons" "I") (by decide +kernel)) (fun _ h9 => h9) rfl dX6_foretoldBy_59 ?_
        refine lv_i2l (v := tn.toInt64) hx hb dX6_foretoldBy_62 rfl ?_
        refine lv_lmul hx hb dX6_foretoldBy_63 ?_
        subst hQ
        exact W.lret (v := (pacc g xa wa ya (ha + 1)) * tn.toInt64) hx hb hr (fun t ht hW => ⟨(pacc g xa wa ya (ha + 1)) * tn.toInt64, rfl, rfl, ht⟩) (fun q h => absurd h List.not_mem_nil) dX6_foretoldBy_64
      · skip
        have hlti8 : i8 ≤ ha := (by have q := nI_ge_of (by omega) (by omega) c1; omega)
        refine lv_aload_n hx hb dX6_foretoldBy_17 rfl (lv_at hl 2 rfl) ?_
        refine va_get (D := (dC, dI)) (ci := 6) (v := .int (nI xa)) (C := RX6) (T := TX6) (N := 8) hx hb hts hiX6 hown hK hP 0 rfl rfl 1 (by decide) (hts (.fieldLink RX6 13 "TributePitches$Pitch" "x" "I") (by decide +kernel)) (fun _ h9 => h9) rfl dX6_foretoldBy_18 ?_
        refine lv_istore (lv' := [(5, .int (nI xa)), (4, .int (nI (ya + i8))), (2, .long (pacc g xa wa ya i8)), (0, .ref qp), (1, .ref ga)]) hx hb dX6_foretoldBy_21 hl (by decide) rfl (fun ls hl => ?_)
        have loop23 : ∀ (ni23 i23 : Nat) (ls : Array Slot), i23 ≤ (wa + 1) → (wa + 1) + 1 ≤ i23 + ni23 → lv_has ls 6 [(5, .int (nI (xa + i23))), (4, .int (nI (ya + i8))), (2, .long (racc g (8 * (ya + i8) + xa) (pacc g xa wa ya i8) i23)), (0, .ref qp), (1, .ref ga)] → W p l e ({ frames := 1, cells := 0, slots := 0, locals := 30 } : Room) s m ([.ref qp, .ref ga] : List Value).toArray below meth c0 s.heap [] 0 0 Q (F0 m 23 ls []) := by
          intro ni23
          induction ni23 with
          | zero =>
            intro i23  ls h1 h2
            exact absurd h2 (by omega)
          | succ ni23 ihi23 =>
            intro i23  ls hlei23 hni23  hl
            refine lv_iload hx hb dX6_foretoldBy_23 (lv_at hl 0 rfl) ?_
            refine lv_aload_n hx hb dX6_foretoldBy_25 rfl (lv_at hl 3 rfl) ?_
            refine va_get (D := (dC, dI)) (ci := 6) (v := .int (nI (xa + wa))) (C := RX6) (T := TX6) (N := 8) hx hb hts hiX6 hown hK hP 0 rfl rfl 3 (by decide) (hts (.fieldLink RX6 19 "TributePitches$Pitch" "x2" "I") (by decide +kernel)) (fun _ h9 => h9) rfl dX6_foretoldBy_26 ?_
            refine lv_icmp_gt (tgt := 51) hx hb dX6_foretoldBy_29 (by decide) (fun c2 => ?_) (fun c2 => ?_)
            · skip
              have hei23 : i23 = wa + 1 := (by have q := nI_lt_of (by omega) (by omega) c2; omega)
              subst hei23
              refine lv_iinc (v := nI (ya + (i8 + 1))) (lv' := [(4, .int (nI (ya + (i8 + 1)))), (5, .int (nI (xa + (wa + 1)))), (2, .long (racc g (8 * (ya + i8) + xa) (pacc g xa wa ya i8) (wa + 1))), (0, .ref qp), (1, .ref ga)]) hx hb dX6_foretoldBy_51 hl (k := 1) rfl (nI_1 _) (by decide) rfl (fun ls hl => ?_)
              refine lv_goto (tgt := 8) hx hb dX6_foretoldBy_54 (by decide) ?_
              have hl : lv_has ls 6 [(4, .int (nI (ya + (i8 + 1)))), (5, .int (nI (xa + (wa + 1)))), (2, .long (pacc g xa wa ya (i8 + 1))), (0, .ref qp), (1, .ref ga)] := hl
              exact ihi8 (i8 + 1)  ls (by omega) (by omega)  (lv_sub hl [0, 2, 3, 4] rfl)
            · skip
              have hlti23 : i23 ≤ wa := (by have q := nI_ge_of (by omega) (by omega) c2; omega)
              refine lv_lload_n hx hb dX6_foretoldBy_32 rfl (lv_at hl 2 rfl) ?_
              refine lv_aload_n hx hb dX6_foretoldBy_33 rfl (lv_at hl 4 rfl) ?_
              refine lv_iload hx hb dX6_foretoldBy_34 (lv_at hl 0 rfl) ?_
              refine lv_iload hx hb dX6_foretoldBy_36 (lv_at hl 1 rfl) ?_
              refine vp_callSi (va_Run.run (va_runS (As := [.int (nI (xa + i23)), .int (nI (ya + i8))]) (rest := [.ref ga, .long (racc g (8 * (ya + i8) + xa) (pacc g xa wa ya i8) i23)]) ⟨hx, hb, hml, hown, hts⟩ (c_X3_numberOf l (nI (xa + i23)) (nI (ya + i8)) ) (va_cwS 2 hts gX6_foretoldBy_X3_numberOf rfl rfl rfl (by decide +kernel) ⟨Nat.le_of_ble_eq_true rfl, Nat.le_of_ble_eq_true rfl⟩) (p0_preS hN) rfl rfl hl.1 rfl (lv_room (Nat.le_of_ble_eq_true rfl)) dX6_foretoldBy_38 ⟨Nat.le_of_ble_eq_true rfl, Nat.le_of_ble_eq_true rfl⟩)) (fun r3 hr3 => ?_)
              have hr3 : r3 = 8 * (nI (ya + i8)) + (nI (xa + i23)) := hr3
              rw [sqn] at hr3
              subst hr3
              refine va_iald hx hb hK hP 1 0 rfl rfl (vp_in_nI (by omega) (by omega)) dX6_foretoldBy_41 ?_
              refine lv_topi (fun v4 ev4 => ?_)
              have ev4 : v4 = g (8 * (ya + i8) + xa + i23) := by rw [ev4]; rw [nI_clamp (by omega), Nat.add_assoc]
              subst ev4
              refine lv_i2l (v := (g (8 * (ya + i8) + xa + i23)).toInt64) hx hb dX6_foretoldBy_42 rfl ?_
              refine lv_ladd hx hb dX6_foretoldBy_43 ?_
              refine lv_topl (fun vs evs => ?_)
              have evs : vs = racc g (8 * (ya + i8) + xa) (pacc g xa wa ya i8) (i23 + 1) := by rw [evs]; rfl
              subst evs
              refine lv_lstore_n (lv' := [(2, .long (racc g (8 * (ya + i8) + xa) (pacc g xa wa ya i8) (i23 + 1))), (5, .int (nI (xa + i23))), (4, .int (nI (ya + i8))), (0, .ref qp), (1, .ref ga)]) hx hb dX6_foretoldBy_44 rfl hl (by decide) rfl (fun ls hl => ?_)
              refine lv_iinc (v := nI (xa + (i23 + 1))) (lv' := [(5, .int (nI (xa + (i23 + 1)))), (2, .long (racc g (8 * (ya + i8) + xa) (pacc g xa wa ya i8) (i23 + 1))), (4, .int (nI (ya + i8))), (0, .ref qp), (1, .ref ga)]) hx hb dX6_foretoldBy_45 hl (k := 1) rfl (nI_1 _) (by decide) rfl (fun ls hl => ?_)
              refine lv_goto (tgt := 23) hx hb dX6_foretoldBy_48 (by decide) ?_
              exact ihi23 (i23 + 1)  ls (by omega) (by omega)  (lv_sub hl [0, 2, 1, 3, 4] rfl)
        exact loop23 ((wa + 1) + 1 - 0) 0  ls (by omega) (by omega)  (lv_sub hl [0, 1, 2, 3, 4] rfl)
  exact loop8 ((ha + 1) + 1 - 0) 0  ls (by omega) (by omega)  (lv_sub hl [0, 1, 2, 3] rfl)
set_option maxHeartbeats 4000000 in
set_option maxRecDepth 100000 in
theorem s_greatestOf (l : Launch) (dC : Nat → ClassId) (dI : Nat → Nat → Nat) (cI : ClassId) (sz : Nat) (qp : Nat) (ga : Nat) (p0 : Value) (p5 : Value) (p6 : Value) (p7 : Value) (x : Int32) (y : Int32) (xx : Int32) (yy : Int32) (xa : Nat) (wa : Nat) (ya : Nat) (ha : Nat) (g : Nat → Int32) (ex : x = nI xa) (exx : xx = nI (xa + wa)) (ey : y = nI ya) (eyy : yy = nI (ya + ha)) (hxw : xa + wa ≤ 7) (hyh : ya + ha ≤ 5) : Met l yX6_greatestOf wsX6_greatestOf ({ frames := 1, cells := 0, slots := 0, locals := 30 }) (pw (dC, dI) [(cI, .int)] [(qp, .inr (6, [p0, .int x, .int y, .int xx, .int yy, p5, p6, p7])), (ga, .inl (cI, 48, .inl g))] sz [.ref qp, .ref ga]) (vp_Si (fun r => r = pmax g xa wa ya (ha + 1))) 0 0 (fun _ => False) := by
  refine pw_met (cc := cX6_greatestOf) (maxL := 5) (ret := (some .int)) (by decide) rfl (Nat.le_of_ble_eq_true rfl) ?_
  intro p e s m below meth c0 hx hb hr hml hown hlocks hnm hts hP hK hD hN hsz hA hS ls hl
  have hl : lv_has ls 5 [(0, .ref qp), (1, .ref ga)] := hl
  have hiX6 : ∀ w ∈ wsX60, w ∈ wsX6_greatestOf := by decide +kernel
  generalize hQ : MQ _ _ _ _ _ _ _ = Q
  subst ex
  subst exx
  subst ey
  subst eyy
  have hP : va_P (dC, dI) vwCl [(qp, .inr (6, [p0, .int (nI xa), .int (nI ya), .int (nI (xa + wa)), .int (nI (ya + ha)), p5, p6, p7])), (ga, .inl (cI, 48, .inl g))] s.heap := hP
  have hD : va_D _ [(qp, .inr (6, [p0, .int (nI xa), .int (nI ya), .int (nI (xa + wa)), .int (nI (ya + ha)), p5, p6, p7])), (ga, .inl (cI, 48, .inl g))] := hD
  refine lv_iconst (v := 0) hx hb dX6_greatestOf_0 (by decide) ?_
  refine lv_istore_n (lv' := [(2, .int 0), (0, .ref qp), (1, .ref ga)]) hx hb dX6_greatestOf_1 rfl hl (by decide) rfl (fun ls hl => ?_)
  refine lv_aload_n hx hb dX6_greatestOf_2 rfl (lv_at hl 1 rfl) ?_
  refine va_get (D := (dC, dI)) (ci := 6) (v := .int (nI ya)) (C := RX6) (T := TX6) (N := 8) hx hb hts hiX6 hown hK hP 0 rfl rfl 2 (by decide) (hts (.fieldLink RX6 16 "TributePitches$Pitch" "y" "I") (by decide +kernel)) (fun _ h9 => h9) rfl dX6_greatestOf_3 ?_
  refine lv_istore_n (lv' := [(3, .int (nI ya)), (2, .int 0), (0, .ref qp), (1, .ref ga)]) hx hb dX6_greatestOf_6 rfl hl (by decide) rfl (fun ls hl => ?_)
  have loop7 : ∀ (ni7 i7 : Nat) (ls : Array Slot), i7 ≤ (ha + 1) → (ha + 1) + 1 ≤ i7 + ni7 → lv_has ls 5 [(3, .int (nI (ya + i7))), (2, .int (pmax g xa wa ya i7)), (0, .ref qp), (1, .ref ga)] → W p l e ({ frames := 1, cells := 0, slots := 0, locals := 30 } : Room) s m ([.ref qp, .ref ga] : List Value).toArray below meth c0 s.heap [] 0 0 Q (F0 m 7 ls []) := by
    intro ni7
    induction ni7 with
    | zero =>
      intro i7  ls h1 h2
      exact absurd h2 (by omega)
    | succ ni7 ihi7 =>
      intro i7  ls hlei7 hni7  hl
      refine lv_iload_n hx hb dX6_greatestOf_7 rfl (lv_at hl 0 rfl) ?_
      refine lv_aload_n hx hb dX6_greatestOf_8 rfl (lv_at hl 2 rfl) ?_
      refine va_get (D := (dC, dI)) (ci := 6) (v := .int (nI (ya + ha))) (C := RX6) (T := TX6) (N := 8) hx hb hts hiX6 hown hK hP 0 rfl rfl 4 (by decide) (hts (.fieldLink RX6 22 "TributePitches$Pitch" "y2" "I") (by decide +kernel)) (fun _ h9 => h9) rfl dX6_greatestOf_9 ?_
      refine lv_icmp_gt (tgt := 55) hx hb dX6_greatestOf_12 (by decide) (fun c1 => ?_) (fun c1 => ?_)
      · skip
        have hei7 : i7 = ha + 1 := (by have q := nI_lt_of (by omega) (by omega) c1; omega)
        subst hei7
        refine lv_iload_n hx hb dX6_greatestOf_55 rfl (lv_at hl 1 rfl) ?_
        subst hQ
        exact W.iret (v := pmax g xa wa ya (ha + 1)) hx hb hr (fun t ht hW => ⟨pmax g xa wa ya (ha + 1), rfl, rfl, ht⟩) (fun q h => absurd h List.not_mem_nil) dX6_greatestOf_56
      · skip
        have hlti7 : i7 ≤ ha := (by have q := nI_ge_of (by omega) (by omega) c1; omega)
        refine lv_aload_n hx hb dX6_greatestOf_15 rfl (lv_at hl 2 rfl) ?_
        refine va_get (D := (dC, dI)) (ci := 6) (v := .int (nI xa)) (C := RX6) (T := TX6) (N := 8) hx hb hts hiX6 hown hK hP 0 rfl rfl 1 (by decide) (hts (.fieldLink RX6 13 "TributePitches$Pitch" "x" "I") (by decide +kernel)) (fun _ h9 => h9) rfl dX6_greatestOf_16 ?_
        refine lv_istore (lv' := [(4, .int (nI xa)), (3, .int (nI (ya + i7))), (2, .int (pmax g xa wa ya i7)), (0, .ref qp), (1, .ref ga)]) hx hb dX6_greatestOf_19 hl (by decide) rfl (fun ls hl => ?_)
        have loop21 : ∀ (ni21 i21 : Nat) (ls : Array Slot), i21 ≤ (wa + 1) → (wa + 1) + 1 ≤ i21 + ni21 → lv_has ls 5 [(4, .int (nI (xa + i21))), (3, .int (nI (ya + i7))), (2, .int (gacc g (8 * (ya + i7) + xa) (pmax g xa wa ya i7) i21)), (0, .ref qp), (1, .ref ga)] → W p l e ({ frames := 1, cells := 0, slots := 0, locals := 30 } : Room) s m ([.ref qp, .ref ga] : List Value).toArray below meth c0 s.heap [] 0 0 Q (F0 m 21 ls []) := by
          intro ni21
          induction ni21 with
          | zero =>
            intro i21  ls h1 h2
            exact absurd h2 (by omega)
          | succ ni21 ihi21 =>
            intro i21  ls hlei21 hni21  hl
            refine lv_iload hx hb dX6_greatestOf_21 (lv_at hl 0 rfl) ?_
            refine lv_aload_n hx hb dX6_greatestOf_23 rfl (lv_at hl 3 rfl) ?_
            refine va_get (D := (dC, dI)) (ci := 6) (v := .int (nI (xa + wa))) (C := RX6) (T := TX6) (N := 8) hx hb hts hiX6 hown hK hP 0 rfl rfl 3 (by decide) (hts (.fieldLink RX6 19 "TributePitches$Pitch" "x2" "I") (by decide +kernel)) (fun _ h9 => h9) rfl dX6_greatestOf_24 ?_
            refine lv_icmp_gt (tgt := 49) hx hb dX6_greatestOf_27 (by decide) (fun c2 => ?_) (fun c2 => ?_)
            · skip
              have hei21 : i21 = wa + 1 := (by have q := nI_lt_of (by omega) (by omega) c2; omega)
              subst hei21
              refine lv_iinc (v := nI (ya + (i7 + 1))) (lv' := [(3, .int (nI (ya + (i7 + 1)))), (4, .int (nI (xa + (wa + 1)))), (2, .int (gacc g (8 * (ya + i7) + xa) (pmax g xa wa ya i7) (wa + 1))), (0, .ref qp), (1, .ref ga)]) hx hb dX6_greatestOf_49 hl (k := 1) rfl (nI_1 _) (by decide) rfl (fun ls hl => ?_)
              refine lv_goto (tgt := 7) hx hb dX6_greatestOf_52 (by decide) ?_
              have hl : lv_has ls 5 [(3, .int (nI (ya + (i7 + 1)))), (4, .int (nI (xa + (wa + 1)))), (2, .int (pmax g xa wa ya (i7 + 1))), (0, .ref qp), (1, .ref ga)] := hl
              exact ihi7 (i7 + 1)  ls (by omega) (by omega)  (lv_sub hl [0, 2, 3, 4] rfl)
            · skip
              have hlti21 : i21 ≤ wa := (by have q := nI_ge_of (by omega) (by omega) c2; omega)
              refine lv_iload_n hx hb dX6_greatestOf_30 rfl (lv_at hl 2 rfl) ?_
              refine lv_aload_n hx hb dX6_greatestOf_31 rfl (lv_at hl 4 rfl) ?_
              refine lv_iload hx hb dX6_greatestOf_32 (lv_at hl 0 rfl) ?_
              refine lv_iload_n hx hb dX6_greatestOf_34 rfl (lv_at hl 1 rfl) ?_
              refine vp_callSi (va_Run.run (va_runS (As := [.int (nI (xa + i21)), .int (nI (ya + i7))]) (rest := [.ref ga, .int (gacc g (8 * (ya + i7) + xa) (pmax g xa wa ya i7) i21)]) ⟨hx, hb, hml, hown, hts⟩ (c_X3_numberOf l (nI (xa + i21)) (nI (ya + i7)) ) (va_cwS 2 hts gX6_greatestOf_X3_numberOf rfl rfl rfl (by decide +kernel) ⟨Nat.le_of_ble_eq_true rfl, Nat.le_of_ble_eq_true rfl⟩) (p0_preS hN) rfl rfl hl.1 rfl (lv_room (Nat.le_of_ble_eq_true rfl)) dX6_greatestOf_35 ⟨Nat.le_of_ble_eq_true rfl, Nat.le_of_ble_eq_true rfl⟩)) (fun r3 hr3 => ?_)
              have hr3 : r3 = 8 * (nI (ya + i7)) + (nI (xa + i21)) := hr3
              rw [sqn] at hr3
              subst hr3
              refine va_iald hx hb hK hP 1 0 rfl rfl (vp_in_nI (by omega) (by omega)) dX6_greatestOf_38 ?_
              refine lv_topi (fun v4 ev4 => ?_)
              have ev4 : v4 = g (8 * (ya + i7) + xa + i21) := by rw [ev4]; rw [nI_clamp (by omega), Nat.add_assoc]
              subst ev4
              refine va_mmax hx hb (hml.trans hl.1.symm) hown (hts (.methodLink RX6 34 Lib.Math.max.name) (by decide +kernel)) (hts (.static Lib.Math.max.name) (by decide +kernel)) (hts (.initialized "java/lang/Math") (by decide +kernel)) (hts (.code Lib.Math.max.name Lib.Math.max.code 2 (some .int)) (by decide +kernel)) (Nat.le_of_ble_eq_true rfl) (Nat.le_of_ble_eq_true rfl) (Nat.le_of_ble_eq_true rfl) (Nat.le_of_ble_eq_true rfl) dX6_greatestOf_39 ?_
              refine W.eq (g2 := F0 m 42 ls [.int (gacc g (8 * (ya + i7) + xa) (pmax g xa wa ya i7) (i21 + 1))]) rfl ?_
              refine lv_istore_n (lv' := [(2, .int (gacc g (8 * (ya + i7) + xa) (pmax g xa wa ya i7) (i21 + 1))), (4, .int (nI (xa + i21))), (3, .int (nI (ya + i7))), (0, .ref qp), (1, .ref ga)]) hx hb dX6_greatestOf_42 rfl hl (by decide) rfl (fun ls hl => ?_)
              refine lv_iinc (v := nI (xa + (i21 + 1))) (lv' := [(4, .int (nI (xa + (i21 + 1)))), (2, .int (gacc g (8 * (ya + i7) + xa) (pmax g xa wa ya i7) (i21 + 1))), (3, .int (nI (ya + i7))), (0, .ref qp), (1, .ref ga)]) hx hb dX6_greatestOf_43 hl (k := 1) rfl (nI_1 _) (by decide) rfl (fun ls hl => ?_)
              refine lv_goto (tgt := 21) hx hb dX6_greatestOf_46 (by decide) ?_
              exact ihi21 (i21 + 1)  ls (by omega) (by omega)  (lv_sub hl [0, 2, 1, 3, 4] rfl)
        exact loop21 ((wa + 1) + 1 - 0) 0  ls (by omega) (by omega)  (lv_sub hl [0, 1, 2, 3, 4] rfl)
  exact loop7 ((ha + 1) + 1 - 0) 0  ls (by omega) (by omega)  (lv_sub hl [0, 1, 2, 3] rfl)
set_option maxHeartbeats 4000000 in
set_option maxRecDepth 100000 in
theorem s_isSuspect (l : Launch) (dC : Nat → ClassId) (dI : Nat → Nat → Nat) (cI : ClassId) (sz : Nat) (qk : Nat) (qp : Nat) (ql : Nat) (ga : Nat) (p0 : Value) (p5 : Value) (p6 : Value) (p7 : Value) (x : Int32) (y : Int32) (xx : Int32) (yy : Int32) (xa : Nat) (wa : Nat) (ya : Nat) (ha : Nat) (g : Nat → Int32) (u0 : Value) (u2 : Value) (u3 : Value) (u4 : Value) (go : Int32) (ex : x = nI xa) (exx : xx = nI (xa + wa)) (ey : y = nI ya) (eyy : yy = nI (ya + ha)) (hxw : xa + wa ≤ 7) (hyh : ya + ha ≤ 5) : Met l yX5_isSuspect wsX5_isSuspect ({ frames := 2, cells := 0, slots := 0, locals := 60 }) (pw (dC, dI) [(cI, .int)] [(qk, .inr (5, [.ref qp, .int go])), (qp, .inr (6, [p0, .int x, .int y, .int xx, .int yy, p5, p6, p7])), (ql, .inr (3, [u0, .ref ga, u2, u3, u4])), (ga, .inl (cI, 48, .inl g))] sz [.ref qk, .ref ql]) (vp_Si (fun r => r = if pmax g xa wa ya (ha + 1) < go then 1 else 0)) 0 0 (fun _ => False) := by
  refine pw_met (cc := cX5_isSuspect) (maxL := 2) (ret := (some .boolean)) (by decide) rfl (Nat.le_of_ble_eq_true rfl) ?_
  intro p e s m below meth c0 hx hb hr hml hown hlocks hnm hts hP hK hD hN hsz hA hS ls hl
  have hl : lv_has ls 2 [(0, .ref qk), (1, .ref ql)] := hl
  have hiX3 : ∀ w ∈ wsX30, w ∈ wsX5_isSuspect := by decide +kernel
  have hiX5 : ∀ w ∈ wsX50, w ∈ wsX5_isSuspect := by decide +kernel
  generalize hQ : MQ _ _ _ _ _ _ _ = Q
  refine lv_aload_n hx hb dX5_isSuspect_0 rfl (lv_at hl 0 rfl) ?_
  refine va_get (D := (dC, dI)) (ci := 5) (v := .int go) (C := RX5) (T := TX5) (N := 2) hx hb hts hiX5 hown hK hP 0 rfl rfl 1 (by decide) (hts (.fieldLink RX5 13 "TributePitches$Parcel" "goodness" "I") (by decide +kernel)) (fun _ h9 => h9) rfl dX5_isSuspect_1 ?_
  refine lv_aload_n hx hb dX5_isSuspect_4 rfl (lv_at hl 0 rfl) ?_
  refine va_get (D := (dC, dI)) (ci := 5) (v := .ref qp) (C := RX5) (T := TX5) (N := 2) hx hb hts hiX5 hown hK hP 0 rfl rfl 0 (by decide) (hts (.fieldLink RX5 7 "TributePitches$Parcel" "pitch" "LTributePitches$Pitch;") (by decide +kernel)) (fun _ h9 => h9) rfl dX5_isSuspect_5 ?_
  refine lv_aload_n hx hb dX5_isSuspect_8 rfl (lv_at hl 1 rfl) ?_
  refine va_get (D := (dC, dI)) (ci := 3) (v := .ref ga) (C := RX3) (T := TX3) (N := 5) hx hb hts hiX3 hown hK hP 2 rfl rfl 1 (by decide) (hts (.fieldLink RX5 17 "TributePitches$Lode" "highs" "[I") (by decide +kernel)) (fun _ h9 => h9) rfl dX5_isSuspect_9 ?_
  have hPc := hP.sub (ws' := [(qp, .inr (6, [p0, .int x, .int y, .int xx, .int yy, p5, p6, p7])), (ga, .inl (cI, 48, .inl g))]) [1, 3] rfl
  have hDc := hD.sub (ws' := [(qp, .inr (6, [p0, .int x, .int y, .int xx, .int yy, p5, p6, p7])), (ga, .inl (cI, 48, .inl g))]) [1, 3] (by decide) rfl
  have hKc := hK.sub (tys' := [(cI, .int)]) [0] rfl
  refine vp_callSi (va_Run.run (va_runV (As := [.ref ga]) (rest := [.int go]) ⟨hx, hb, hml, hown, hts⟩ (s_greatestOf l dC dI cI _ qp ga p0 p5 p6 p7 x y xx yy xa wa ya ha g ex exx ey eyy hxw hyh) (cwV 1 hts gX5_isSuspect_X6_greatestOf rfl rfl rfl (by decide +kernel) ⟨Nat.le_of_ble_eq_true rfl, Nat.le_of_ble_eq_true rfl⟩) (pw_preV (va_recv hKc hPc (ci := 6) (q0 := 0) rfl rfl) hPc hKc hDc hN) rfl rfl hl.1 rfl (lv_room (Nat.le_of_ble_eq_true rfl)) dX5_isSuspect_12 ⟨Nat.le_of_ble_eq_true rfl, Nat.le_of_ble_eq_true rfl⟩)) (fun r1 hr1 => ?_)
  have hr1 : r1 = pmax g xa wa ya (ha + 1) := hr1
  subst hr1
  refine lv_icmp_le (tgt := 22) hx hb dX5_isSuspect_15 (by decide) (fun c2 => ?_) (fun c2 => ?_)
  · skip
    refine lv_iconst (v := 0) hx hb dX5_isSuspect_22 (by decide) ?_
    subst hQ
    exact W.zret (v := 0) hx hb hr rfl (fun t ht hW => ⟨0, rfl, (by rw [if_neg (Int32.not_lt.mpr c2)]), ht⟩) (fun q h => absurd h List.not_mem_nil) dX5_isSuspect_23
  · skip
    refine lv_iconst (v := 1) hx hb dX5_isSuspect_18 (by decide) ?_
    refine lv_goto (tgt := 23) hx hb dX5_isSuspect_19 (by decide) ?_
    subst hQ
    exact W.zret (v := 1) hx hb hr rfl (fun t ht hW => ⟨1, rfl, (by rw [if_pos (Int32.not_le.mp c2)]), ht⟩) (fun q h => absurd h List.not_mem_nil) dX5_isSuspect_23
