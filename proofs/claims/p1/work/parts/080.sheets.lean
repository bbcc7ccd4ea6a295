theorem in4 {k : Int32} (h : 0 ≤ k ∧ k ≤ 3) : vp_in k 4 := by
  obtain ⟨a, ha, rfl⟩ := nI_of2 (x := k) (M := 3) (n := 3) (by decide) (Int32.not_lt.mpr h.1) h.2
  exact vp_in_nI (by omega) (by omega)
def sh4 (a b c d : Nat) : Nat → Option Nat := fun j => if j = 0 then some a else if j = 1 then some b else if j = 2 then some c else some d
theorem sh4_some (a b c d : Nat) {k : Int32} (_ : 0 ≤ k ∧ k ≤ 3) : ∃ z, sh4 a b c d k.toNatClampNeg = some z ∧ (z = a ∨ z = b ∨ z = c ∨ z = d) := by
  unfold sh4
  split
  · exact ⟨a, rfl, Or.inl rfl⟩
  · split
    · exact ⟨b, rfl, Or.inr (Or.inl rfl)⟩
    · split
      · exact ⟨c, rfl, Or.inr (Or.inr (Or.inl rfl))⟩
      · exact ⟨d, rfl, Or.inr (Or.inr (Or.inr rfl))⟩
def sp_sheet (k ln n : Int32) : Int32 := if 0 ≤ k ∧ k ≤ 3 then (if 0 ≤ ln ∧ ln ≤ 2 then (if n ≤ 48 then (if 0 ≤ n then 1 else -14) else -2) else -2) else -1
def sp_lose (k : Int32) : Int32 := if 0 ≤ k ∧ k ≤ 3 then 0 else -1
def sp_put (k : Int32) : Int32 := if 0 ≤ k ∧ k ≤ 3 then -11 else -1
def sp_copy (k o : Int32) : Int32 := if 0 ≤ k ∧ k ≤ 3 then (if 0 ≤ o ∧ o ≤ 3 then -11 else -1) else -1
def sp_chart (k ln s : Int32) : Int32 := if 0 ≤ k ∧ k ≤ 3 then (if 0 ≤ s ∧ s ≤ 47 then (if 0 ≤ ln ∧ ln ≤ 2 then -11 else -2) else -1) else -1
set_option maxHeartbeats 4000000 in
set_option maxRecDepth 100000 in
theorem c_X10_sheetAt (l : Launch) (dC : Nat → ClassId) (dI : Nat → Nat → Nat) (cS : ClassId) (sz : Nat) (qx : Nat) (x0 : Value) (x1 : Value) (x2 : Value) (x3 : Value) (x4 : Value) (x6 : Value) (x7 : Value) (x8 : Value) (x9 : Value) (x10 : Value) (x11 : Value) (x12 : Value) (sh : Nat) (fs : Nat → Option Nat) (k : Int32)  : Met l yX10_sheetAt wsX10_sheetAt ({ frames := 1, cells := 0, slots := 0, locals := 30 }) (pw (dC, dI) [(cS, .object RX7)] [(qx, .inr (10, [x0, x1, x2, x3, x4, .ref sh, x6, x7, x8, x9, x10, x11, x12])), (sh, .inl (cS, 4, .inr (.inr (.inr (.inr fs)))))] sz [.ref qx, .int k]) (va_Sq (fun r => (¬ (0 ≤ k ∧ k ≤ 3) ∧ r = none) ∨ ((0 ≤ k ∧ k ≤ 3) ∧ r = fs k.toNatClampNeg))) 0 0 (fun _ => False) := by
  refine pw_met (cc := cX10_sheetAt) (maxL := 2) (ret := (some (.object "TributePitches$Sheet"))) (by decide) rfl (Nat.le_of_ble_eq_true rfl) ?_
  intro p e s m below meth c0 hx hb hr hml hown hlocks hnm hts hP hK hD hN hsz hA hS ls hl
  have hl : lv_has ls 2 [(0, .ref qx), (1, .int k)] := hl
  have hiX10 : ∀ w ∈ wsX100, w ∈ wsX10_sheetAt := by decide +kernel
  refine lv_iload_n hx hb dX10_sheetAt_0 rfl (lv_at hl 1 rfl) ?_
  refine lv_iconst (v := 0) hx hb dX10_sheetAt_1 (by decide) ?_
  refine lv_aload_n hx hb dX10_sheetAt_2 rfl (lv_at hl 0 rfl) ?_
  refine va_get (D := (dC, dI)) (ci := 10) (v := .ref sh) (C := RX10) (T := TX10) (N := 13) hx hb hts hiX10 hown hK hP 0 rfl rfl 5 (by decide) (hts (.fieldLink RX10 45 "TributePitches" "sheets" "[LTributePitches$Sheet;") (by decide +kernel)) (fun _ h9 => h9) rfl dX10_sheetAt_3 ?_
  refine va_alen (v := 4) hx hb hK hP 1 0 rfl rfl rfl dX10_sheetAt_6 ?_
  refine lv_iconst (v := 1) hx hb dX10_sheetAt_7 (by decide) ?_
  refine lv_isub hx hb dX10_sheetAt_8 ?_
  refine lv_topi (fun v1 ev1 => ?_)
  have ev1 : v1 = 3 := by rw [ev1]; decide
  subst ev1
  refine vp_callSi (va_Run.run (va_runS (As := [.int k, .int 0, .int 3]) (rest := []) ⟨hx, hb, hml, hown, hts⟩ (c_X10_isWithin l k 0 3 ) (va_cwS 3 hts gX10_sheetAt_X10_isWithin rfl rfl rfl (by decide +kernel) ⟨Nat.le_of_ble_eq_true rfl, Nat.le_of_ble_eq_true rfl⟩) (p0_preS hN) rfl rfl hl.1 rfl (lv_room (Nat.le_of_ble_eq_true rfl)) dX10_sheetAt_9 ⟨Nat.le_of_ble_eq_true rfl, Nat.le_of_ble_eq_true rfl⟩)) (fun r2 hr2 => ?_)
  have hr2 : r2 = if 0 ≤ k ∧ k ≤ 3 then 1 else 0 := hr2
  refine lv_if_eq (tgt := 24) hx hb dX10_sheetAt_12 (by decide) (fun c3 => ?_) (fun c3 => ?_)
  · skip
    have c3 := (fa_bool_prop hr2).1.mp c3
    refine lv_null hx hb dX10_sheetAt_24 ?_
    exact W.aret (v := .null) hx hb hr (Or.inl ⟨_, rfl⟩) (Or.inl rfl) (fun t ht hW => ⟨none, rfl, (Or.inl ⟨c3, rfl⟩), ht⟩) (fun q h => absurd h List.not_mem_nil) dX10_sheetAt_25
  · skip
    have c3 := (fa_bool_prop hr2).2.mp c3
    refine lv_aload_n hx hb dX10_sheetAt_15 rfl (lv_at hl 0 rfl) ?_
    refine va_get (D := (dC, dI)) (ci := 10) (v := .ref sh) (C := RX10) (T := TX10) (N := 13) hx hb hts hiX10 hown hK hP 0 rfl rfl 5 (by decide) (hts (.fieldLink RX10 45 "TributePitches" "sheets" "[LTributePitches$Sheet;") (by decide +kernel)) (fun _ h9 => h9) rfl dX10_sheetAt_16 ?_
    refine lv_iload_n hx hb dX10_sheetAt_19 rfl (lv_at hl 1 rfl) ?_
    refine va_aldq hx hb hK hP 1 0 rfl rfl (in4 c3) dX10_sheetAt_20 ?_
    refine lv_goto (tgt := 25) hx hb dX10_sheetAt_21 (by decide) ?_
    exact W.aret (v := va_rf (fs (k).toNatClampNeg)) hx hb hr (Or.inl ⟨_, rfl⟩) (va_rf_or _) (fun t ht hW => ⟨(fs (k).toNatClampNeg), rfl, (Or.inr ⟨c3, rfl⟩), ht⟩) (fun q h => absurd h List.not_mem_nil) dX10_sheetAt_25
set_option maxHeartbeats 4000000 in
set_option maxRecDepth 100000 in
theorem c_X10_faulted (l : Launch) (dC : Nat → ClassId) (dI : Nat → Nat → Nat)  (sz : Nat) (qx : Nat) (x0 : Value) (x1 : Value) (x2 : Value) (x3 : Value) (x4 : Value) (x5 : Value) (x6 : Value) (x7 : Value) (x8 : Value) (x9 : Value) (x10 : Value) (x11 : Value) (x12 : Value) (k : Int32)  : Met l yX10_faulted wsX10_faulted ({ frames := 0, cells := 0, slots := 0, locals := 0 }) (pw (dC, dI) [] [(qx, .inr (10, [x0, x1, x2, x3, x4, x5, x6, x7, x8, x9, x10, x11, x12]))] sz [.ref qx, .int k]) (va_Qi (fun r (_ : Unit) => r = -10 - k) (fun _ t => bw (dC, dI) [] (va_A [(qx, .inr (10, [x0, x1, x2, x3, x4, x5, x6, x7, x8, x9, x10, x11, x12]))] sz) [(qx, .inr (10, [x0, x1, x2, x3, x4, x5, x6, x7, x8, x9, x10, x11, .int k]))] t) (va_A [(qx, .inr (10, [x0, x1, x2, x3, x4, x5, x6, x7, x8, x9, x10, x11, x12]))] sz)) 0 0 (va_A [(qx, .inr (10, [x0, x1, x2, x3, x4, x5, x6, x7, x8, x9, x10, x11, x12]))] sz) := by
  refine pw_met (cc := cX10_faulted) (maxL := 2) (ret := (some .int)) (by decide) rfl (Nat.le_of_ble_eq_true rfl) ?_
  intro p e s m below meth c0 hx hb hr hml hown hlocks hnm hts hP hK hD hN hsz hA hS ls hl
  subst hsz
  have hl : lv_has ls 2 [(0, .ref qx), (1, .int k)] := hl
  have hiX10 : ∀ w ∈ wsX100, w ∈ wsX10_faulted := by decide +kernel
  refine lv_aload_n hx hb dX10_faulted_0 rfl (lv_at hl 0 rfl) ?_
  refine lv_iload_n hx hb dX10_faulted_1 rfl (lv_at hl 1 rfl) ?_
  refine va_put (D := (dC, dI)) (ci := 10) (v := .int k) (ty := .int) (C := RX10) (T := TX10) (N := 13) hx hb hts hiX10 tyX10 tyX10_ok nmX10 hown hK hP hD hS 0 rfl rfl 12 (by decide) (hts (.fieldLink RX10 56 "TributePitches" "latestFault" "I") (by decide +kernel)) (fun _ h9 => h9) rfl (by decide +kernel) rfl rfl (Nat.le_of_ble_eq_true rfl) dX10_faulted_2 (fun H locs hP hD hS => ?_)
  have hP : va_P (dC, dI) vwCl [(qx, .inr (10, [x0, x1, x2, x3, x4, x5, x6, x7, x8, x9, x10, x11, .int k]))] H := hP
  have hD : va_D _ [(qx, .inr (10, [x0, x1, x2, x3, x4, x5, x6, x7, x8, x9, x10, x11, .int k]))] := hD
  refine lv_bipush (v := (-10)) hx hb dX10_faulted_5 (by decide) ?_
  refine lv_iload_n hx hb dX10_faulted_7 rfl (lv_at hl 1 rfl) ?_
  refine lv_isub hx hb dX10_faulted_8 ?_
  have hP9 := hP.sub (ws' := [(qx, .inr (10, [x0, x1, x2, x3, x4, x5, x6, x7, x8, x9, x10, x11, .int k]))]) [0] rfl
  have hD9 := hD.sub (ws' := [(qx, .inr (10, [x0, x1, x2, x3, x4, x5, x6, x7, x8, x9, x10, x11, .int k]))]) [0] (by decide) rfl
  have hK9 := hK.sub (tys' := []) [] rfl
  exact W.iret (v := (-10) - k) hx hb hr (fun t ht hW => ⟨⟨(-10) - k, (), rfl, rfl, ⟨by rw [ht]; exact hP9, va_K.moved hW.alike hK9, hD9⟩⟩, hS.F ht⟩) hS.2.2 dX10_faulted_9
set_option maxHeartbeats 4000000 in
set_option maxRecDepth 100000 in
theorem c_X7_hasNothing (l : Launch) (dC : Nat → ClassId) (dI : Nat → Nat → Nat)  (sz : Nat) (qs : Nat) (c0v : Value) (c2v : Value)  : Met l yX7_hasNothing wsX7_hasNothing ({ frames := 0, cells := 0, slots := 0, locals := 0 }) (pw (dC, dI) [] [(qs, .inr (7, [c0v, .int (-1), c2v]))] sz [.ref qs]) (vp_Si (fun r => r = 1)) 0 0 (fun _ => False) := by
  refine pw_met (cc := cX7_hasNothing) (maxL := 1) (ret := (some .boolean)) (by decide) rfl (Nat.le_of_ble_eq_true rfl) ?_
  intro p e s m below meth c0 hx hb hr hml hown hlocks hnm hts hP hK hD hN hsz hA hS ls hl
  have hl : lv_has ls 1 [(0, .ref qs)] := hl
  have hiX7 : ∀ w ∈ wsX70, w ∈ wsX7_hasNothing := by decide +kernel
  refine lv_aload_n hx hb dX7_hasNothing_0 rfl (lv_at hl 0 rfl) ?_
  refine va_get (D := (dC, dI)) (ci := 7) (v := .int (-1)) (C := RX7) (T := TX7) (N := 3) hx hb hts hiX7 hown hK hP 0 rfl rfl 1 (by decide) (hts (.fieldLink RX7 15 "TributePitches$Sheet" "lane" "I") (by decide +kernel)) (fun _ h9 => h9) rfl dX7_hasNothing_1 ?_
  refine lv_iconst (v := (-1)) hx hb dX7_hasNothing_4 (by decide) ?_
  refine lv_icmp_ne (tgt := 12) hx hb dX7_hasNothing_5 (by decide) (fun c1 => ?_) (fun c1 => ?_)
  · exact absurd c1 (by decide)
  · skip
    refine lv_iconst (v := 1) hx hb dX7_hasNothing_8 (by decide) ?_
    refine lv_goto (tgt := 13) hx hb dX7_hasNothing_9 (by decide) ?_
    exact W.zret (v := 1) hx hb hr rfl (fun t ht hW => ⟨1, rfl, rfl, ht⟩) (fun q h => absurd h List.not_mem_nil) dX7_hasNothing_13
set_option maxHeartbeats 4000000 in
set_option maxRecDepth 100000 in
theorem c_X7_faultAs (l : Launch) (dC : Nat → ClassId) (dI : Nat → Nat → Nat)  (sz : Nat) (qs : Nat) (c0v : Value) (c2v : Value) (k : Int32)  : Met l yX7_faultAs wsX7_faultAs ({ frames := 1, cells := 0, slots := 0, locals := 30 }) (pw (dC, dI) [] [(qs, .inr (7, [c0v, .int (-1), c2v]))] sz [.ref qs, .int k]) (vp_Si (fun r => r = 1)) 0 0 (fun _ => False) := by
  refine pw_met (cc := cX7_faultAs) (maxL := 2) (ret := (some .int)) (by decide) rfl (Nat.le_of_ble_eq_true rfl) ?_
  intro p e s m below meth c0 hx hb hr hml hown hlocks hnm hts hP hK hD hN hsz hA hS ls hl
  have hl : lv_has ls 2 [(0, .ref qs), (1, .int k)] := hl
  refine lv_aload_n hx hb dX7_faultAs_0 rfl (lv_at hl 0 rfl) ?_
  have hPc := hP.sub (ws' := [(qs, .inr (7, [c0v, .int (-1), c2v]))]) [0] rfl
  have hDc := hD.sub (ws' := [(qs, .inr (7, [c0v, .int (-1), c2v]))]) [0] (by decide) rfl
  have hKc := hK.sub (tys' := []) [] rfl
  refine vp_callSi (va_Run.run (va_runV (As := []) (rest := []) ⟨hx, hb, hml, hown, hts⟩ (c_X7_hasNothing l dC dI  _ qs c0v c2v ) (cwV 0 hts gX7_faultAs_X7_hasNothing rfl rfl rfl (by decide +kernel) ⟨Nat.le_of_ble_eq_true rfl, Nat.le_of_ble_eq_true rfl⟩) (pw_preV (va_recv hKc hPc (ci := 7) (q0 := 0) rfl rfl) hPc hKc hDc hN) rfl rfl hl.1 rfl (lv_room (Nat.le_of_ble_eq_true rfl)) dX7_faultAs_1 ⟨Nat.le_of_ble_eq_true rfl, Nat.le_of_ble_eq_true rfl⟩)) (fun r1 hr1 => ?_)
  have hr1 : r1 = 1 := hr1
  subst hr1
  refine lv_if_eq (tgt := 9) hx hb dX7_faultAs_4 (by decide) (fun c2 => ?_) (fun c2 => ?_)
  · exact absurd c2 (by decide)
  · skip
    refine lv_iconst (v := 1) hx hb dX7_faultAs_7 (by decide) ?_
    exact W.iret (v := 1) hx hb hr (fun t ht hW => ⟨1, rfl, rfl, ht⟩) (fun q h => absurd h List.not_mem_nil) dX7_faultAs_8
set_option maxHeartbeats 4000000 in
set_option maxRecDepth 100000 in
theorem c_X10_chartFault (l : Launch) (dC : Nat → ClassId) (dI : Nat → Nat → Nat)  (sz : Nat) (qs : Nat) (c0v : Value) (c2v : Value) (k : Int32) (i : Int32) (n : Int32) (sv : Int32)  : Met l yX10_chartFault wsX10_chartFault ({ frames := 2, cells := 0, slots := 0, locals := 60 }) (pw (dC, dI) [] [(qs, .inr (7, [c0v, .int (-1), c2v]))] sz [.ref qs, .int k, .int i, .int n, .int sv]) (vp_Si (fun r => r = 1)) 0 0 (fun _ => False) := by
  refine pw_met (cc := cX10_chartFault) (maxL := 6) (ret := (some .int)) (by decide) rfl (Nat.le_of_ble_eq_true rfl) ?_
  intro p e s m below meth c0 hx hb hr hml hown hlocks hnm hts hP hK hD hN hsz hA hS ls hl
  have hl : lv_has ls 6 [(0, .ref qs), (1, .int k), (2, .int i), (3, .int n), (4, .int sv)] := hl
  refine lv_aload_n hx hb dX10_chartFault_0 rfl (lv_at hl 0 rfl) ?_
  refine lv_iload_n hx hb dX10_chartFault_1 rfl (lv_at hl 1 rfl) ?_
  have hPc := hP.sub (ws' := [(qs, .inr (7, [c0v, .int (-1), c2v]))]) [0] rfl
  have hDc := hD.sub (ws' := [(qs, .inr (7, [c0v, .int (-1), c2v]))]) [0] (by decide) rfl
  have hKc := hK.sub (tys' := []) [] rfl
  refine vp_callSi (va_Run.run (va_runV (As := [.int k]) (rest := []) ⟨hx, hb, hml, hown, hts⟩ (c_X7_faultAs l dC dI  _ qs c0v c2v k ) (cwV 1 hts gX10_chartFault_X7_faultAs rfl rfl rfl (by decide +kernel) ⟨Nat.le_of_ble_eq_true rfl, Nat.le_of_ble_eq_true rfl⟩) (pw_preV (va_recv hKc hPc (ci := 7) (q0 := 0) rfl rfl) hPc hKc hDc hN) rfl rfl hl.1 rfl (lv_room (Nat.le_of_ble_eq_true rfl)) dX10_chartFault_2 ⟨Nat.le_of_ble_eq_true rfl, Nat.le_of_ble_eq_true rfl⟩)) (fun r1 hr1 => ?_)
  have hr1 : r1 = 1 := hr1
  subst hr1
  refine lv_istore (lv' := [(5, .int 1), (0, .ref qs), (1, .int k), (2, .int i), (3, .int n), (4, .int sv)]) hx hb dX10_chartFault_5 hl (by decide) rfl (fun ls hl => ?_)
  refine lv_iload hx hb dX10_chartFault_7 (lv_at hl 0 rfl) ?_
  refine lv_if_eq (tgt := 15) hx hb dX10_chartFault_9 (by decide) (fun c2 => ?_) (fun c2 => ?_)
  · exact absurd c2 (by decide)
  · skip
    refine lv_iload hx hb dX10_chartFault_12 (lv_at hl 0 rfl) ?_
    exact W.iret (v := 1) hx hb hr (fun t ht hW => ⟨1, rfl, rfl, ht⟩) (fun q h => absurd h List.not_mem_nil) dX10_chartFault_14
set_option maxHeartbeats 4000000 in
set_option maxRecDepth 100000 in
theorem c_J7_fill (l : Launch) (dC : Nat → ClassId) (dI : Nat → Nat → Nat) (cI : ClassId) (sz : Nat) (ar : Nat) (v : Int32) (f : Nat → Int32)  : Met l yJ7_fill_53178 wsJ7_fill_53178 ({ frames := 0, cells := 0, slots := 0, locals := 0 }) (pw (dC, dI) [(cI, .int)] [(ar, .inl (cI, 48, .inl f))] sz [.ref ar, .int v]) (va_Qv (fun (_ : Unit) => True) (fun _ t => bw (dC, dI) [(cI, .int)] (va_A [(ar, .inl (cI, 48, .inl f))] sz) [(ar, .inl (cI, 48, .inl (fun _ => v)))] t) (va_A [(ar, .inl (cI, 48, .inl f))] sz)) 0 0 (va_A [(ar, .inl (cI, 48, .inl f))] sz) := by
  refine pw_met (cc := cJ7_fill_53178) (maxL := 4) (ret := none) (by decide) rfl (Nat.le_of_ble_eq_true rfl) ?_
  intro p e s m below meth c0 hx hb hr hml hown hlocks hnm hts hP hK hD hN hsz hA hS ls hl
  subst hsz
  have hl : lv_has ls 4 [(0, .ref ar), (1, .int v)] := hl
  obtain ⟨Q, hQ⟩ : ∃ Q : State → Prop, Q = MQ below (va_Qv (fun (_ : Unit) => True) (fun _ t => bw (dC, dI) [(cI, .int)] (va_A [(ar, .inl (cI, 48, .inl f))] s.heap.size) [(ar, .inl (cI, 48, .inl (fun _ => v)))] t) (va_A [(ar, .inl (cI, 48, .inl f))] s.heap.size)) ([.ref ar, .int v] : List Value).toArray s 0 0 (va_A [(ar, .inl (cI, 48, .inl f))] s.heap.size) := ⟨_, rfl⟩
  rw [← hQ]
  refine lv_iconst (v := 0) hx hb dJ7_fill_53178_0 (by decide) ?_
  refine lv_istore_n (lv' := [(2, .int 0), (0, .ref ar), (1, .int v)]) hx hb dJ7_fill_53178_1 rfl hl (by decide) rfl (fun ls hl => ?_)
  refine lv_aload_n hx hb dJ7_fill_53178_2 rfl (lv_at hl 1 rfl) ?_
  refine va_alen (v := 48) hx hb hK hP 0 0 rfl rfl rfl dJ7_fill_53178_3 ?_
  refine lv_istore_n (lv' := [(3, .int 48), (2, .int 0), (0, .ref ar), (1, .int v)]) hx hb dJ7_fill_53178_4 rfl hl (by decide) rfl (fun ls hl => ?_)
  have hP := va_P_cg hP 0 (fa_fill (fun _ => v) f 0) rfl (fun j _ => (congrFun (fa_fill_0 (fun _ => v) f) j).symm)
  have hD := va_D_cg hD 0 (fa_fill (fun _ => v) f 0) rfl
  have hP : va_P (dC, dI) vwCl [(ar, .inl (cI, 48, .inl (fa_fill (fun _ => v) f 0)))] s.heap := hP
  have hD : va_D _ [(ar, .inl (cI, 48, .inl (fa_fill (fun _ => v) f 0)))] := hD
  have loop5 : ∀ (ni5 i5 : Nat) (H : Heap) (locs : List Loc) (ls : Array Slot), i5 ≤ 48 → 48 + 1 ≤ i5 + ni5 → va_P (dC, dI) vwCl [(ar, .inl (cI, 48, .inl (fa_fill (fun _ => v) f i5)))] H → va_D (va_A [(ar, .inl (cI, 48, .inl f))] s.heap.size) [(ar, .inl (cI, 48, .inl (fa_fill (fun _ => v) f i5)))] → va_S (va_A [(ar, .inl (cI, 48, .inl f))] s.heap.size) s.heap H locs → lv_has ls 4 [(3, .int 48), (2, .int (nI i5)), (0, .ref ar), (1, .int v)] → W p l e ({ frames := 0, cells := 0, slots := 0, locals := 0 } : Room) s m ([.ref ar, .int v] : List Value).toArray below meth c0 H locs 0 0 Q (F0 m 5 ls []) := by
    intro ni5
    induction ni5 with
    | zero =>
      intro i5  H locs ls h1 h2
      exact absurd h2 (by omega)
    | succ ni5 ihi5 =>
      intro i5  H locs ls hlei5 hni5  hP hD hS hl
      refine lv_iload_n hx hb dJ7_fill_53178_5 rfl (lv_at hl 1 rfl) ?_
      refine lv_iload_n hx hb dJ7_fill_53178_6 rfl (lv_at hl 0 rfl) ?_
      refine lv_icmp_ge (tgt := 20) hx hb dJ7_fill_53178_7 (by decide) (fun c1 => ?_) (fun c1 => ?_)
      · skip
        have hei5 : i5 = 48 := (Nat.lt_or_ge i5 48).elim (fun q => absurd c1 (show ¬ nI 48 ≤ nI i5 from nI_ge q (by omega))) (fun q => by omega)
        have hP := va_P_cg hP 0 (fun _ => v) rfl (fun j hj => fa_fill_in (by omega))
        have hD := va_D_cg hD 0 (fun _ => v) rfl
        have hP : va_P (dC, dI) vwCl [(ar, .inl (cI, 48, .inl (fun _ => v)))] H := hP
        have hD : va_D _ [(ar, .inl (cI, 48, .inl (fun _ => v)))] := hD
        rw [hQ]
        have hP9 := hP.sub (ws' := [(ar, .inl (cI, 48, .inl (fun _ => v)))]) [0] rfl
        have hD9 := hD.sub (ws' := [(ar, .inl (cI, 48, .inl (fun _ => v)))]) [0] (by decide) rfl
        have hK9 := hK.sub (tys' := [(cI, .int)]) [0] rfl
        exact W.vret hx hb hr (fun t ht hW => ⟨⟨(), rfl, trivial, ⟨by rw [ht]; exact hP9, va_K.moved hW.alike hK9, hD9⟩⟩, hS.F ht⟩) hS.2.2 dJ7_fill_53178_20
      · skip
        have hlti5 : i5 < 48 := (Nat.lt_or_ge i5 48).elim id (fun q => absurd (show nI 48 ≤ nI i5 from nI_le q (by omega)) c1)
        refine lv_aload_n hx hb dJ7_fill_53178_10 rfl (lv_at hl 2 rfl) ?_
        refine lv_iload_n hx hb dJ7_fill_53178_11 rfl (lv_at hl 1 rfl) ?_
        refine lv_iload_n hx hb dJ7_fill_53178_12 rfl (lv_at hl 3 rfl) ?_
        refine va_iast hx hb hK hP hD hS 0 0 rfl rfl (vp_in_nI (by omega) (by omega)) dJ7_fill_53178_13 (fun H locs hP hD hS => ?_)
        have hP : va_P (dC, dI) vwCl [(ar, .inl (cI, 48, .inl (upd (fa_fill (fun _ => v) f i5) (nI i5).toNatClampNeg v)))] H := hP
        have hD : va_D _ [(ar, .inl (cI, 48, .inl (upd (fa_fill (fun _ => v) f i5) (nI i5).toNatClampNeg v)))] := hD
        have hP := va_P_cg hP 0 (fa_fill (fun _ => v) f (i5 + 1)) rfl (fun j _ => by rw [nI_clamp (by omega)]; exact congrFun (fa_fill_succ (fun _ => v) f i5) j)
        have hD := va_D_cg hD 0 (fa_fill (fun _ => v) f (i5 + 1)) rfl
        have hP : va_P (dC, dI) vwCl [(ar, .inl (cI, 48, .inl (fa_fill (fun _ => v) f (i5 + 1))))] H := hP
        have hD : va_D _ [(ar, .inl (cI, 48, .inl (fa_fill (fun _ => v) f (i5 + 1))))] := hD
        refine lv_iinc (v := nI (i5 + 1)) (lv' := [(2, .int (nI (i5 + 1))), (3, .int 48), (0, .ref ar), (1, .int v)]) hx hb dJ7_fill_53178_14 hl (k := 1) rfl (nI_1 i5) (by decide) rfl (fun ls hl => ?_)
        refine lv_goto (tgt := 5) hx hb dJ7_fill_53178_17 (by decide) ?_
        exact ihi5 (i5 + 1)  _ _ ls (by omega) (by omega)  (hP.sub [0] rfl) (hD.sub [0] (by decide) rfl) hS (lv_sub hl [1, 0, 2, 3] rfl)
  exact loop5 (48 + 1 - 0) 0  _ _ ls (by omega) (by omega)  hP hD hS (lv_sub hl [0, 1, 2, 3] rfl)
set_option maxHeartbeats 4000000 in
set_option maxRecDepth 100000 in
theorem c_X7_renew (l : Launch) (dC : Nat → ClassId) (dI : Nat → Nat → Nat) (cI : ClassId) (sz : Nat) (qs : Nat) (ca : Nat) (c1v : Value) (c2v : Value) (ln : Int32) (n : Int32) (f : Nat → Int32)  : Met l yX7_renew wsX7_renew ({ frames := 1, cells := 0, slots := 0, locals := 30 }) (pw (dC, dI) [(cI, .int)] [(qs, .inr (7, [.ref ca, c1v, c2v])), (ca, .inl (cI, 48, .inl f))] sz [.ref qs, .int ln, .int n]) (va_Qv (fun (_ : Unit) => True) (fun _ _ => True) (va_A [(qs, .inr (7, [.ref ca, c1v, c2v])), (ca, .inl (cI, 48, .inl f))] sz)) 0 0 (va_A [(qs, .inr (7, [.ref ca, c1v, c2v])), (ca, .inl (cI, 48, .inl f))] sz) := by
  refine pw_met (cc := cX7_renew) (maxL := 3) (ret := none) (by decide) rfl (Nat.le_of_ble_eq_true rfl) ?_
  intro p e s m below meth c0 hx hb hr hml hown hlocks hnm hts hP hK hD hN hsz hA hS ls hl
  subst hsz
  have hl : lv_has ls 3 [(0, .ref qs), (1, .int ln), (2, .int n)] := hl
  have hiX7 : ∀ w ∈ wsX70, w ∈ wsX7_renew := by decide +kernel
  refine lv_aload_n hx hb dX7_renew_0 rfl (lv_at hl 0 rfl) ?_
  refine va_get (D := (dC, dI)) (ci := 7) (v := .ref ca) (C := RX7) (T := TX7) (N := 3) hx hb hts hiX7 hown hK hP 0 rfl rfl 0 (by decide) (hts (.fieldLink RX7 11 "TributePitches$Sheet" "cells" "[I") (by decide +kernel)) (fun _ h9 => h9) rfl dX7_renew_1 ?_
  refine lv_iconst (v := 0) hx hb dX7_renew_4 (by decide) ?_
  have hPc := hP.sub (ws' := [(ca, .inl (cI, 48, .inl f))]) [1] rfl
  have hDc := hD.sub (ws' := [(ca, .inl (cI, 48, .inl f))]) [1] (by decide) rfl
  have hKc := hK.sub (tys' := [(cI, .int)]) [0] rfl
  have hFc := va_free (wc := [(ca, .inl (cI, 48, .inl f))]) hD hS hA [1] rfl
  refine va_callv (va_runS (As := [.ref ca, .int 0]) (rest := []) ⟨hx, hb, hml, hown, hts⟩ (c_J7_fill l dC dI cI _ ca 0 f ) (va_cwS 2 hts gX7_renew_J7_fill_53178 rfl rfl rfl (by decide +kernel) ⟨Nat.le_of_ble_eq_true rfl, Nat.le_of_ble_eq_true rfl⟩) (pw_preS hPc hKc hDc hN) rfl rfl hl.1 rfl (lv_room (Nat.le_of_ble_eq_true rfl)) dX7_renew_5 ⟨Nat.le_of_ble_eq_true rfl, Nat.le_of_ble_eq_true rfl⟩) hS (fun q _ h => hFc q h) hFc (fun u t H1 locs ht hvm hw hB hz1 hk1 hS => ?_)
  obtain ⟨hP1, hK1, hD1⟩ := hB
  rw [ht] at hP1
  obtain ⟨hP, hD⟩ := va_join (wr := [(qs, .inr (7, [.ref ca, c1v, c2v]))]) (w1 := [(ca, .inl (cI, 48, .inl (fun _ => 0)))]) hP hD [1] [0] rfl rfl (by decide) (by decide) hk1 hFc hP1 hD1
  generalize H1 = H at hP hS ⊢
  have hP : va_P (dC, dI) vwCl [(qs, .inr (7, [.ref ca, c1v, c2v])), (ca, .inl (cI, 48, .inl (fun _ => 0)))] H := hP
  have hD : va_D _ [(qs, .inr (7, [.ref ca, c1v, c2v])), (ca, .inl (cI, 48, .inl (fun _ => 0)))] := hD
  refine lv_aload_n hx hb dX7_renew_8 rfl (lv_at hl 0 rfl) ?_
  refine lv_iload_n hx hb dX7_renew_9 rfl (lv_at hl 1 rfl) ?_
  refine va_put (D := (dC, dI)) (ci := 7) (v := .int ln) (ty := .int) (C := RX7) (T := TX7) (N := 3) hx hb hts hiX7 tyX7 tyX7_ok nmX7 hown hK hP hD hS 0 rfl rfl 1 (by decide) (hts (.fieldLink RX7 15 "TributePitches$Sheet" "lane" "I") (by decide +kernel)) (fun _ h9 => h9) rfl (by decide +kernel) rfl rfl (Nat.le_of_ble_eq_true rfl) dX7_renew_10 (fun H locs hP hD hS => ?_)
  have hP : va_P (dC, dI) vwCl [(qs, .inr (7, [.ref ca, .int ln, c2v])), (ca, .inl (cI, 48, .inl (fun _ => 0)))] H := hP
  have hD : va_D _ [(qs, .inr (7, [.ref ca, .int ln, c2v])), (ca, .inl (cI, 48, .inl (fun _ => 0)))] := hD
  refine lv_aload_n hx hb dX7_renew_13 rfl (lv_at hl 0 rfl) ?_
  refine lv_iload_n hx hb dX7_renew_14 rfl (lv_at hl 2 rfl) ?_
  refine va_put (D := (dC, dI)) (ci := 7) (v := .int n) (ty := .int) (C := RX7) (T := TX7) (N := 3) hx hb hts hiX7 tyX7 tyX7_ok nmX7 hown hK hP hD hS 0 rfl rfl 2 (by decide) (hts (.fieldLink RX7 29 "TributePitches$Sheet" "length" "I") (by decide +kernel)) (fun _ h9 => h9) rfl (by decide +kernel) rfl rfl (Nat.le_of_ble_eq_true rfl) dX7_renew_15 (fun H locs hP hD hS => ?_)
  have hP : va_P (dC, dI) vwCl [(qs, .inr (7, [.ref ca, .int ln, .int n])), (ca, .inl (cI, 48, .inl (fun _ => 0)))] H := hP
  have hD : va_D _ [(qs, .inr (7, [.ref ca, .int ln, .int n])), (ca, .inl (cI, 48, .inl (fun _ => 0)))] := hD
  exact W.vret hx hb hr (fun t ht hW => ⟨⟨(), rfl, trivial, trivial⟩, hS.F ht⟩) hS.2.2 dX7_renew_18
set_option maxHeartbeats 4000000 in
set_option maxRecDepth 100000 in
theorem c_X10_sheet (l : Launch) (dC : Nat → ClassId) (dI : Nat → Nat → Nat) (cI : ClassId) (cS : ClassId) (sz : Nat) (qx : Nat) (x0 : Value) (x1 : Value) (x2 : Value) (x3 : Value) (x4 : Value) (x6 : Value) (x7 : Value) (x8 : Value) (x9 : Value) (x10 : Value) (x11 : Value) (x12 : Value) (sh : Nat) (t0 : Nat) (t1 : Nat) (t2 : Nat) (t3 : Nat) (d0 : Nat) (d1 : Nat) (d2 : Nat) (d3 : Nat) (k : Int32) (ln : Int32) (n : Int32)  : Met l yX10_sheet wsX10_sheet ({ frames := 4, cells := 0, slots := 0, locals := 130 }) (pw (dC, dI) [(cI, .int), (cS, .object RX7)] [(qx, .inr (10, [x0, x1, x2, x3, x4, .ref sh, x6, x7, x8, x9, x10, x11, x12])), (t0, .inr (7, [.ref d0, .int (-1), .int 0])), (t1, .inr (7, [.ref d1, .int (-1), .int 0])), (t2, .inr (7, [.ref d2, .int (-1), .int 0])), (t3, .inr (7, [.ref d3, .int (-1), .int 0])), (d0, .inl (cI, 48, .inl (fun _ => 0))), (d1, .inl (cI, 48, .inl (fun _ => 0))), (d2, .inl (cI, 48, .inl (fun _ => 0))), (d3, .inl (cI, 48, .inl (fun _ => 0))), (sh, .inl (cS, 4, .inr (.inr (.inr (.inr (sh4 t0 t1 t2 t3))))))] sz [.ref qx, .int k, .int ln, .int n]) (va_Qi (fun r (_ : Unit) => r = sp_sheet k ln n) (fun _ _ => True) (va_A [(qx, .inr (10, [x0, x1, x2, x3, x4, .ref sh, x6, x7, x8, x9, x10, x11, x12])), (t0, .inr (7, [.ref d0, .int (-1), .int 0])), (t1, .inr (7, [.ref d1, .int (-1), .int 0])), (t2, .inr (7, [.ref d2, .int (-1), .int 0])), (t3, .inr (7, [.ref d3, .int (-1), .int 0])), (d0, .inl (cI, 48, .inl (fun _ => 0))), (d1, .inl (cI, 48, .inl (fun _ => 0))), (d2, .inl (cI, 48, .inl (fun _ => 0))), (d3, .inl (cI, 48, .inl (fun _ => 0))), (sh, .inl (cS, 4, .inr (.inr (.inr (.inr (sh4 t0 t1 t2 t3))))))] sz)) 0 0 (va_A [(qx, .inr (10, [x0, x1, x2, x3, x4, .ref sh, x6, x7, x8, x9, x10, x11, x12])), (t0, .inr (7, [.ref d0, .int (-1), .int 0])), (t1, .inr (7, [.ref d1, .int (-1), .int 0])), (t2, .inr (7, [.ref d2, .int (-1), .int 0])), (t3, .inr (7, [.ref d3, .int (-1), .int 0])), (d0, .inl (cI, 48, .inl (fun _ => 0))), (d1, .inl (cI, 48, .inl (fun _ => 0))), (d2, .inl (cI, 48, .inl (fun _ => 0))), (d3, .inl (cI, 48, .inl (fun _ => 0))), (sh, .inl (cS, 4, .inr (.inr (.inr (.inr (sh4 t0 t1 t2 t3))))))] sz) := by
  refine pw_met (cc := cX10_sheet) (maxL := 5) (ret := (some .int)) (by decide) rfl (Nat.le_of_ble_eq_true rfl) ?_
  intro p e s m below meth c0 hx hb hr hml hown hlocks hnm hts hP hK hD hN hsz hA hS ls hl
  subst hsz
  have hl : lv_has ls 5 [(0, .ref qx), (1, .int k), (2, .int ln), (3, .int n)] := hl
  have hiX10 : ∀ w ∈ wsX100, w ∈ wsX10_sheet := by decide +kernel
  refine lv_aload_n hx hb dX10_sheet_0 rfl (lv_at hl 0 rfl) ?_
  refine lv_iconst (v := 0) hx hb dX10_sheet_1 (by decide) ?_
  refine va_put (D := (dC, dI)) (ci := 10) (v := .int 0) (ty := .int) (C := RX10) (T := TX10) (N := 13) hx hb hts hiX10 tyX10 tyX10_ok nmX10 hown hK hP hD hS 0 rfl rfl 12 (by decide) (hts (.fieldLink RX10 56 "TributePitches" "latestFault" "I") (by decide +kernel)) (fun _ h9 => h9) rfl (by decide +kernel) rfl rfl (Nat.le_of_ble_eq_true rfl) dX10_sheet_2 (fun H locs hP hD hS => ?_)
  have hP : va_P (dC, dI) vwCl [(qx, .inr (10, [x0, x1, x2, x3, x4, .ref sh, x6, x7, x8, x9, x10, x11, .int 0])), (t0, .inr (7, [.ref d0, .int (-1), .int 0])), (t1, .inr (7, [.ref d1, .int (-1), .int 0])), (t2, .inr (7, [.ref d2, .int (-1), .int 0])), (t3, .inr (7, [.ref d3, .int (-1), .int 0])), (d0, .inl (cI, 48, .inl (fun _ => 0))), (d1, .inl (cI, 48, .inl (fun _ => 0))), (d2, .inl (cI, 48, .inl (fun _ => 0))), (d3, .inl (cI, 48, .inl (fun _ => 0))), (sh, .inl (cS, 4, .inr (.inr (.inr (.inr (sh4 t0 t1 t2 t3))))))] H := hP
  have hD : va_D _ [(qx, .inr (10, [x0, x1, x2, x3, x4, .ref sh, x6, x7, x8, x9, x10, x11, .int 0])), (t0, .inr (7, [.ref d0, .int (-1), .int 0])), (t1, .inr (7, [.ref d1, .int (-1), .int 0])), (t2, .inr (7, [.ref d2, .int (-1), .int 0])), (t3, .inr (7, [.ref d3, .int (-1), .int 0])), (d0, .inl (cI, 48, .inl (fun _ => 0))), (d1, .inl (cI, 48, .inl (fun _ => 0))), (d2, .inl (cI, 48, .inl (fun _ => 0))), (d3, .inl (cI, 48, .inl (fun _ => 0))), (sh, .inl (cS, 4, .inr (.inr (.inr (.inr (sh4 t0 t1 t2 t3))))))] := hD
  refine lv_aload_n hx hb dX10_sheet_5 rfl (lv_at hl 0 rfl) ?_
  refine lv_iload_n hx hb dX10_sheet_6 rfl (lv_at hl 1 rfl) ?_
  have hPc := hP.sub (ws' := [(qx, .inr (10, [x0, x1, x2, x3, x4, .ref sh, x6, x7, x8, x9, x10, x11, .int 0])), (sh, .inl (cS, 4, .inr (.inr (.inr (.inr (sh4 t0 t1 t2 t3))))))]) [0, 9] rfl
  have hDc := hD.sub (ws' := [(qx, .inr (10, [x0, x1, x2, x3, x4, .ref sh, x6, x7, x8, x9, x10, x11, .int 0])), (sh, .inl (cS, 4, .inr (.inr (.inr (.inr (sh4 t0 t1 t2 t3))))))]) [0, 9] (by decide) rfl
  have hKc := hK.sub (tys' := [(cS, .object RX7)]) [1] rfl
  refine va_csq (va_Run.run (va_runV (As := [.int k]) (rest := []) ⟨hx, hb, hml, hown, hts⟩ (c_X10_sheetAt l dC dI cS _ qx x0 x1 x2 x3 x4 x6 x7 x8 x9 x10 x11 (.int 0) sh (sh4 t0 t1 t2 t3) k ) (cwV 1 hts gX10_sheet_X10_sheetAt rfl rfl rfl (by decide +kernel) ⟨Nat.le_of_ble_eq_true rfl, Nat.le_of_ble_eq_true rfl⟩) (pw_preV (va_recv hKc hPc (ci := 10) (q0 := 0) rfl rfl) hPc hKc hDc hN) rfl rfl hl.1 rfl (lv_room (Nat.le_of_ble_eq_true rfl)) dX10_sheet_7 ⟨Nat.le_of_ble_eq_true rfl, Nat.le_of_ble_eq_true rfl⟩)) (fun r1 hr1 => ?_)
  have hr1 : (¬ (0 ≤ k ∧ k ≤ 3) ∧ r1 = none) ∨ ((0 ≤ k ∧ k ≤ 3) ∧ r1 = (sh4 t0 t1 t2 t3) k.toNatClampNeg) := hr1
  rcases hr1 with ⟨hka, er1⟩ | ⟨hka, er1⟩
  · subst er1
    refine W.eq (g2 := F0 m 10 ls [.null]) rfl ?_
    refine lv_astoreN (lv' := [(4, .null), (0, .ref qx), (1, .int k), (2, .int ln), (3, .int n)]) hx hb dX10_sheet_10 hl (by decide) rfl (fun ls hl => ?_)
    refine lv_aloadN hx hb dX10_sheet_12 (lv_at hl 0 rfl) ?_
    refine lv_ifnonnullN hx hb dX10_sheet_14 ?_
    refine lv_iconst (v := (-1)) hx hb dX10_sheet_17 (by decide) ?_
    exact W.iret (v := (-1)) hx hb hr (fun t ht hW => ⟨⟨(-1), (), rfl, (by simp [sp_sheet, hka]), trivial⟩, hS.F ht⟩) hS.2.2 dX10_sheet_18
  · obtain ⟨saa, eaa, haa⟩ := sh4_some t0 t1 t2 t3 hka
    rw [eaa] at er1
    subst er1
    refine W.eq (g2 := F0 m 10 ls [.ref saa]) rfl ?_
    obtain ⟨caa, hP, hD⟩ : ∃ caa : Nat, va_P (dC, dI) vwCl [(qx, .inr (10, [x0, x1, x2, x3, x4, .ref sh, x6, x7, x8, x9, x10, x11, .int 0])), (saa, .inr (7, [.ref caa, .int (-1), .int 0])), (caa, .inl (cI, 48, .inl (fun _ => 0))), (sh, .inl (cS, 4, .inr (.inr (.inr (.inr (sh4 t0 t1 t2 t3))))))] H ∧ va_D (va_A [(qx, .inr (10, [x0, x1, x2, x3, x4, .ref sh, x6, x7, x8, x9, x10, x11, x12])), (t0, .inr (7, [.ref d0, .int (-1), .int 0])), (t1, .inr (7, [.ref d1, .int (-1), .int 0])), (t2, .inr (7, [.ref d2, .int (-1), .int 0])), (t3, .inr (7, [.ref d3, .int (-1), .int 0])), (d0, .inl (cI, 48, .inl (fun _ => 0))), (d1, .inl (cI, 48, .inl (fun _ => 0))), (d2, .inl (cI, 48, .inl (fun _ => 0))), (d3, .inl (cI, 48, .inl (fun _ => 0))), (sh, .inl (cS, 4, .inr (.inr (.inr (.inr (sh4 t0 t1 t2 t3))))))] s.heap.size) [(qx, .inr (10, [x0, x1, x2, x3, x4, .ref sh, x6, x7, x8, x9, x10, x11, .int 0])), (saa, .inr (7, [.ref caa, .int (-1), .int 0])), (caa, .inl (cI, 48, .inl (fun _ => 0))), (sh, .inl (cS, 4, .inr (.inr (.inr (.inr (sh4 t0 t1 t2 t3))))))] := by
      rcases haa with rfl | rfl | rfl | rfl
      · exact ⟨_, hP.sub [0, 1, 5, 9] rfl, hD.sub [0, 1, 5, 9] (by decide) rfl⟩
      · exact ⟨_, hP.sub [0, 2, 6, 9] rfl, hD.sub [0, 2, 6, 9] (by decide) rfl⟩
      · exact ⟨_, hP.sub [0, 3, 7, 9] rfl, hD.sub [0, 3, 7, 9] (by decide) rfl⟩
      · exact ⟨_, hP.sub [0, 4, 8, 9] rfl, hD.sub [0, 4, 8, 9] (by decide) rfl⟩
    refine lv_astore (lv' := [(4, .ref saa), (0, .ref qx), (1, .int k), (2, .int ln), (3, .int n)]) hx hb dX10_sheet_10 hl (by decide) rfl (fun ls hl => ?_)
    refine lv_aload hx hb dX10_sheet_12 (lv_at hl 0 rfl) ?_
    refine lv_ifnonnull (tgt := 19) hx hb dX10_sheet_14 (by decide) ?_
    refine lv_iload_n hx hb dX10_sheet_19 rfl (lv_at hl 3 rfl) ?_
    refine vp_callSi (va_Run.run (va_runS (As := [.int ln]) (rest := []) ⟨hx, hb, hml, hown, hts⟩ (c_X7_isLane l ln ) (va_cwS 1 hts gX10_sheet_X7_isLane rfl rfl rfl (by decide +kernel) ⟨Nat.le_of_ble_eq_true rfl, Nat.le_of_ble_eq_true rfl⟩) (p0_preS hN) rfl rfl hl.1 rfl (lv_room (Nat.le_of_ble_eq_true rfl)) dX10_sheet_20 ⟨Nat.le_of_ble_eq_true rfl, Nat.le_of_ble_eq_true rfl⟩)) (fun r2 hr2 => ?_)
    have hr2 : r2 = if 0 ≤ ln ∧ ln ≤ 2 then 1 else 0 := hr2
    refine lv_if_eq (tgt := 32) hx hb dX10_sheet_23 (by decide) (fun c3 => ?_) (fun c3 => ?_)
    · skip
      have c3 := (fa_bool_prop hr2).1.mp c3
      refine lv_bipush (v := (-2)) hx hb dX10_sheet_32 (by decide) ?_
      exact W.iret (v := (-2)) hx hb hr (fun t ht hW => ⟨⟨(-2), (), rfl, (by simp [sp_sheet, hka, c3]), trivial⟩, hS.F ht⟩) hS.2.2 dX10_sheet_34
    · skip
      have c3 := (fa_bool_prop hr2).2.mp c3
      refine lv_iload_n hx hb dX10_sheet_26 rfl (lv_at hl 4 rfl) ?_
      refine lv_bipush (v := 48) hx hb dX10_sheet_27 (by decide) ?_
      refine lv_icmp_le (tgt := 35) hx hb dX10_sheet_29 (by decide) (fun c4 => ?_) (fun c4 => ?_)
      · skip
        refine lv_iload_n hx hb dX10_sheet_35 rfl (lv_at hl 4 rfl) ?_
        refine lv_if_ge (tgt := 45) hx hb dX10_sheet_36 (by decide) (fun c5 => ?_) (fun c5 => ?_)
        · skip
          refine lv_aload hx hb dX10_sheet_45 (lv_at hl 0 rfl) ?_
          refine lv_iload_n hx hb dX10_sheet_47 rfl (lv_at hl 3 rfl) ?_
          refine lv_iload_n hx hb dX10_sheet_48 rfl (lv_at hl 4 rfl) ?_
          have hPc := hP.sub (ws' := [(saa, .inr (7, [.ref caa, .int (-1), .int 0])), (caa, .inl (cI, 48, .inl (fun _ => 0)))]) [1, 2] rfl
          have hDc := hD.sub (ws' := [(saa, .inr (7, [.ref caa, .int (-1), .int 0])), (caa, .inl (cI, 48, .inl (fun _ => 0)))]) [1, 2] (by decide) rfl
          have hKc := hK.sub (tys' := [(cI, .int)]) [0] rfl
          have hFc := va_free (wc := [(saa, .inr (7, [.ref caa, .int (-1), .int 0])), (caa, .inl (cI, 48, .inl (fun _ => 0)))]) hD hS hA [1, 2] rfl
          refine va_callv (va_runV (As := [.int ln, .int n]) (rest := []) ⟨hx, hb, hml, hown, hts⟩ (c_X7_renew l dC dI cI _ saa caa (.int (-1)) (.int 0) ln n (fun _ => 0) ) (cwV 2 hts gX10_sheet_X7_renew rfl rfl rfl (by decide +kernel) ⟨Nat.le_of_ble_eq_true rfl, Nat.le_of_ble_eq_true rfl⟩) (pw_preV (va_recv hKc hPc (ci := 7) (q0 := 0) rfl rfl) hPc hKc hDc hN) rfl rfl hl.1 rfl (lv_room (Nat.le_of_ble_eq_true rfl)) dX10_sheet_49 ⟨Nat.le_of_ble_eq_true rfl, Nat.le_of_ble_eq_true rfl⟩) hS (fun q _ h => hFc q h) hFc (fun u t H1 locs ht hvm hw hB hz1 hk1 hS => ?_)
          have hP1 : va_P (dC, dI) vwCl [] H1 := fun k q h => by simp at h
          have hD1 : va_D (va_A [(saa, .inr (7, [.ref caa, .int (-1), .int 0])), (caa, .inl (cI, 48, .inl (fun _ => 0)))] H.size) ([] : va_W) := ⟨fun i j p q h => by simp at h, fun k q h => by simp at h⟩
          obtain ⟨hP, hD⟩ := va_join (wr := [(qx, .inr (10, [x0, x1, x2, x3, x4, .ref sh, x6, x7, x8, x9, x10, x11, .int 0])), (sh, .inl (cS, 4, .inr (.inr (.inr (.inr (sh4 t0 t1 t2 t3))))))]) (w1 := []) hP hD [1, 2] [0, 3] rfl rfl (by decide) (by decide) hk1 hFc hP1 hD1
          generalize H1 = H at hP hS ⊢
          have hP : va_P (dC, dI) vwCl [(qx, .inr (10, [x0, x1, x2, x3, x4, .ref sh, x6, x7, x8, x9, x10, x11, .int 0])), (sh, .inl (cS, 4, .inr (.inr (.inr (.inr (sh4 t0 t1 t2 t3))))))] H := hP
          have hD : va_D _ [(qx, .inr (10, [x0, x1, x2, x3, x4, .ref sh, x6, x7, x8, x9, x10, x11, .int 0])), (sh, .inl (cS, 4, .inr (.inr (.inr (.inr (sh4 t0 t1 t2 t3))))))] := hD
          refine lv_iconst (v := 1) hx hb dX10_sheet_52 (by decide) ?_
          exact W.iret (v := 1) hx hb hr (fun t ht hW => ⟨⟨1, (), rfl, (by simp [sp_sheet, hka, c3, c4, c5]), trivial⟩, hS.F ht⟩) hS.2.2 dX10_sheet_53
        · skip
          refine lv_aload_n hx hb dX10_sheet_39 rfl (lv_at hl 1 rfl) ?_
          refine lv_iconst (v := 4) hx hb dX10_sheet_40 (by decide) ?_
          have hPc := hP.sub (ws' := [(qx, .inr (10, [x0, x1, x2, x3, x4, .ref sh, x6, x7, x8, x9, x10, x11, .int 0]))]) [0] rfl
          have hDc := hD.sub (ws' := [(qx, .inr (10, [x0, x1, x2, x3, x4, .ref sh, x6, x7, x8, x9, x10, x11, .int 0]))]) [0] (by decide) rfl
          have hKc := hK.sub (tys' := []) [] rfl
          have hFc := va_free (wc := [(qx, .inr (10, [x0, x1, x2, x3, x4, .ref sh, x6, x7, x8, x9, x10, x11, .int 0]))]) hD hS hA [0] rfl
          refine va_calli (va_runV (As := [.int 4]) (rest := []) ⟨hx, hb, hml, hown, hts⟩ (c_X10_faulted l dC dI  _ qx x0 x1 x2 x3 x4 (.ref sh) x6 x7 x8 x9 x10 x11 (.int 0) 4 ) (cwV 1 hts gX10_sheet_X10_faulted rfl rfl rfl (by decide +kernel) ⟨Nat.le_of_ble_eq_true rfl, Nat.le_of_ble_eq_true rfl⟩) (pw_preV (va_recv hKc hPc (ci := 10) (q0 := 0) rfl rfl) hPc hKc hDc hN) rfl rfl hl.1 rfl (lv_room (Nat.le_of_ble_eq_true rfl)) dX10_sheet_41 ⟨Nat.le_of_ble_eq_true rfl, Nat.le_of_ble_eq_true rfl⟩) hS (fun q _ h => hFc q h) hFc (fun r7 u t H1 locs ht hvm hw hB hz1 hk1 hS => ?_)
          have hr7 : r7 = -10 - 4 := hw
          obtain ⟨hP1, hK1, hD1⟩ := hB
          rw [ht] at hP1
          obtain ⟨hP, hD⟩ := va_join (wr := [(saa, .inr (7, [.ref caa, .int (-1), .int 0])), (caa, .inl (cI, 48, .inl (fun _ => 0))), (sh, .inl (cS, 4, .inr (.inr (.inr (.inr (sh4 t0 t1 t2 t3))))))]) (w1 := [(qx, .inr (10, [x0, x1, x2, x3, x4, .ref sh, x6, x7, x8, x9, x10, x11, .int 4]))]) hP hD [0] [1, 2, 3] rfl rfl (by decide) (by decide) hk1 hFc hP1 hD1
          generalize H1 = H at hP hS ⊢
          have hP : va_P (dC, dI) vwCl [(saa, .inr (7, [.ref caa, .int (-1), .int 0])), (caa, .inl (cI, 48, .inl (fun _ => 0))), (sh, .inl (cS, 4, .inr (.inr (.inr (.inr (sh4 t0 t1 t2 t3)))))), (qx, .inr (10, [x0, x1, x2, x3, x4, .ref sh, x6, x7, x8, x9, x10, x11, .int 4]))] H := hP
          have hD : va_D _ [(saa, .inr (7, [.ref caa, .int (-1), .int 0])), (caa, .inl (cI, 48, .inl (fun _ => 0))), (sh, .inl (cS, 4, .inr (.inr (.inr (.inr (sh4 t0 t1 t2 t3)))))), (qx, .inr (10, [x0, x1, x2, x3, x4, .ref sh, x6, x7, x8, x9, x10, x11, .int 4]))] := hD
          exact W.iret (v := r7) hx hb hr (fun t ht hW => ⟨⟨r7, (), rfl, (by rw [hr7]; simp [sp_sheet, hka, c3, c4, c5]), trivial⟩, hS.F ht⟩) hS.2.2 dX10_sheet_44
      · skip
        refine lv_bipush (v := (-2)) hx hb dX10_sheet_32 (by decide) ?_
        exact W.iret (v := (-2)) hx hb hr (fun t ht hW => ⟨⟨(-2), (), rfl, (by simp [sp_sheet, hka, c3, c4]), trivial⟩, hS.F ht⟩) hS.2.2 dX10_sheet_34
set_option maxHeartbeats 4000000 in
set_option maxRecDepth 100000 in
theorem c_X10_lose (l : Launch) (dC : Nat → ClassId) (dI : Nat → Nat → Nat) (cS : ClassId) (sz : Nat) (qx : Nat) (x0 : Value) (x1 : Value) (x2 : Value) (x3 : Value) (x4 : Value) (x6 : Value) (x7 : Value) (x8 : Value) (x9 : Value) (x10 : Value) (x11 : Value) (x12 : Value) (sh : Nat) (t0 : Nat) (t1 : Nat) (t2 : Nat) (t3 : Nat) (d0 : Nat) (d1 : Nat) (d2 : Nat) (d3 : Nat) (k : Int32)  : Met l yX10_lose wsX10_lose ({ frames := 4, cells := 0, slots := 0, locals := 130 }) (pw (dC, dI) [(cS, .object RX7)] [(qx, .inr (10, [x0, x1, x2, x3, x4, .ref sh, x6, x7, x8, x9, x10, x11, x12])), (t0, .inr (7, [.ref d0, .int (-1), .int 0])), (t1, .inr (7, [.ref d1, .int (-1), .int 0])), (t2, .inr (7, [.ref d2, .int (-1), .int 0])), (t3, .inr (7, [.ref d3, .int (-1), .int 0])), (sh, .inl (cS, 4, .inr (.inr (.inr (.inr (sh4 t0 t1 t2 t3))))))] sz [.ref qx, .int k]) (va_Qi (fun r (_ : Unit) => r = sp_lose k) (fun _ _ => True) (va_A [(qx, .inr (10, [x0, x1, x2, x3, x4, .ref sh, x6, x7, x8, x9, x10, x11, x12])), (t0, .inr (7, [.ref d0, .int (-1), .int 0])), (t1, .inr (7, [.ref d1, .int (-1), .int 0])), (t2, .inr (7, [.ref d2, .int (-1), .int 0])), (t3, .inr (7, [.ref d3, .int (-1), .int 0])), (sh, .inl (cS, 4, .inr (.inr (.inr (.inr (sh4 t0 t1 t2 t3))))))] sz)) 0 0 (va_A [(qx, .inr (10, [x0, x1, x2, x3, x4, .ref sh, x6, x7, x8, x9, x10, x11, x12])), (t0, .inr (7, [.ref d0, .int (-1), .int 0])), (t1, .inr (7, [.ref d1, .int (-1), .int 0])), (t2, .inr (7, [.ref d2, .int (-1), .int 0])), (t3, .inr (7, [.ref d3, .int (-1), .int 0])), (sh, .inl (cS, 4, .inr (.inr (.inr (.inr (sh4 t0 t1 t2 t3))))))] sz) := by
  refine pw_met (cc := cX10_lose) (maxL := 3) (ret := (some .int)) (by decide) rfl (Nat.le_of_ble_eq_true rfl) ?_
  intro p e s m below meth c0 hx hb hr hml hown hlocks hnm hts hP hK hD hN hsz hA hS ls hl
  subst hsz
  have hl : lv_has ls 3 [(0, .ref qx), (1, .int k)] := hl
  refine lv_aload_n hx hb dX10_lose_0 rfl (lv_at hl 0 rfl) ?_
  refine lv_iload_n hx hb dX10_lose_1 rfl (lv_at hl 1 rfl) ?_
  have hPc := hP.sub (ws' := [(qx, .inr (10, [x0, x1, x2, x3, x4, .ref sh, x6, x7, x8, x9, x10, x11, x12])), (sh, .inl (cS, 4, .inr (.inr (.inr (.inr (sh4 t0 t1 t2 t3))))))]) [0, 5] rfl
  have hDc := hD.sub (ws' := [(qx, .inr (10, [x0, x1, x2, x3, x4, .ref sh, x6, x7, x8, x9, x10, x11, x12])), (sh, .inl (cS, 4, .inr (.inr (.inr (.inr (sh4 t0 t1 t2 t3))))))]) [0, 5] (by decide) rfl
  have hKc := hK.sub (tys' := [(cS, .object RX7)]) [0] rfl
  refine va_csq (va_Run.run (va_runV (As := [.int k]) (rest := []) ⟨hx, hb, hml, hown, hts⟩ (c_X10_sheetAt l dC dI cS _ qx x0 x1 x2 x3 x4 x6 x7 x8 x9 x10 x11 x12 sh (sh4 t0 t1 t2 t3) k ) (cwV 1 hts gX10_lose_X10_sheetAt rfl rfl rfl (by decide +kernel) ⟨Nat.le_of_ble_eq_true rfl, Nat.le_of_ble_eq_true rfl⟩) (pw_preV (va_recv hKc hPc (ci := 10) (q0 := 0) rfl rfl) hPc hKc hDc hN) rfl rfl hl.1 rfl (lv_room (Nat.le_of_ble_eq_true rfl)) dX10_lose_2 ⟨Nat.le_of_ble_eq_true rfl, Nat.le_of_ble_eq_true rfl⟩)) (fun r1 hr1 => ?_)
  have hr1 : (¬ (0 ≤ k ∧ k ≤ 3) ∧ r1 = none) ∨ ((0 ≤ k ∧ k ≤ 3) ∧ r1 = (sh4 t0 t1 t2 t3) k.toNatClampNeg) := hr1
  rcases hr1 with ⟨hka, er1⟩ | ⟨hka, er1⟩
  · subst er1
    refine W.eq (g2 := F0 m 5 ls [.null]) rfl ?_
    refine lv_astore_nN (lv' := [(2, .null), (0, .ref qx), (1, .int k)]) hx hb dX10_lose_5 rfl hl (by decide) rfl (fun ls hl => ?_)
    refine lv_aload_nN hx hb dX10_lose_6 rfl (lv_at hl 0 rfl) ?_
    refine lv_ifnonnullN hx hb dX10_lose_7 ?_
    refine lv_iconst (v := (-1)) hx hb dX10_lose_10 (by decide) ?_
    exact W.iret (v := (-1)) hx hb hr (fun t ht hW => ⟨⟨(-1), (), rfl, (by simp [sp_lose, hka]), trivial⟩, hS.F ht⟩) hS.2.2 dX10_lose_11
  · obtain ⟨saa, eaa, haa⟩ := sh4_some t0 t1 t2 t3 hka
    rw [eaa] at er1
    subst er1
    refine W.eq (g2 := F0 m 5 ls [.ref saa]) rfl ?_
    obtain ⟨caa, hP, hD⟩ : ∃ caa : Nat, va_P (dC, dI) vwCl [(qx, .inr (10, [x0, x1, x2, x3, x4, .ref sh, x6, x7, x8, x9, x10, x11, x12])), (saa, .inr (7, [.ref caa, .int (-1), .int 0])), (sh, .inl (cS, 4, .inr (.inr (.inr (.inr (sh4 t0 t1 t2 t3))))))] s.heap ∧ va_D (va_A [(qx, .inr (10, [x0, x1, x2, x3, x4, .ref sh, x6, x7, x8, x9, x10, x11, x12])), (t0, .inr (7, [.ref d0, .int (-1), .int 0])), (t1, .inr (7, [.ref d1, .int (-1), .int 0])), (t2, .inr (7, [.ref d2, .int (-1), .int 0])), (t3, .inr (7, [.ref d3, .int (-1), .int 0])), (sh, .inl (cS, 4, .inr (.inr (.inr (.inr (sh4 t0 t1 t2 t3))))))] s.heap.size) [(qx, .inr (10, [x0, x1, x2, x3, x4, .ref sh, x6, x7, x8, x9, x10, x11, x12])), (saa, .inr (7, [.ref caa, .int (-1), .int 0])), (sh, .inl (cS, 4, .inr (.inr (.inr (.inr (sh4 t0 t1 t2 t3))))))] := by
      rcases haa with rfl | rfl | rfl | rfl
      · exact ⟨_, hP.sub [0, 1, 5] rfl, hD.sub [0, 1, 5] (by decide) rfl⟩
      · exact ⟨_, hP.sub [0, 2, 5] rfl, hD.sub [0, 2, 5] (by decide) rfl⟩
      · exact ⟨_, hP.sub [0, 3, 5] rfl, hD.sub [0, 3, 5] (by decide) rfl⟩
      · exact ⟨_, hP.sub [0, 4, 5] rfl, hD.sub [0, 4, 5] (by decide) rfl⟩
    refine lv_astore_n (lv' := [(2, .ref saa), (0, .ref qx), (1, .int k)]) hx hb dX10_lose_5 rfl hl (by decide) rfl (fun ls hl => ?_)
    refine lv_aload_n hx hb dX10_lose_6 rfl (lv_at hl 0 rfl) ?_
    refine lv_ifnonnull (tgt := 12) hx hb dX10_lose_7 (by decide) ?_
    refine lv_aload_n hx hb dX10_lose_12 rfl (lv_at hl 0 rfl) ?_
    have hPc := hP.sub (ws' := [(saa, .inr (7, [.ref caa, .int (-1), .int 0]))]) [1] rfl
    have hDc := hD.sub (ws' := [(saa, .inr (7, [.ref caa, .int (-1), .int 0]))]) [1] (by decide) rfl
    have hKc := hK.sub (tys' := []) [] rfl
    refine vp_callSi (va_Run.run (va_runV (As := []) (rest := []) ⟨hx, hb, hml, hown, hts⟩ (c_X7_hasNothing l dC dI  _ saa (.ref caa) (.int 0) ) (cwV 0 hts gX10_lose_X7_hasNothing rfl rfl rfl (by decide +kernel) ⟨Nat.le_of_ble_eq_true rfl, Nat.le_of_ble_eq_true rfl⟩) (pw_preV (va_recv hKc hPc (ci := 7) (q0 := 0) rfl rfl) hPc hKc hDc hN) rfl rfl hl.1 rfl (lv_room (Nat.le_of_ble_eq_true rfl)) dX10_lose_13 ⟨Nat.le_of_ble_eq_true rfl, Nat.le_of_ble_eq_true rfl⟩)) (fun r2 hr2 => ?_)
    have hr2 : r2 = 1 := hr2
    subst hr2
    refine lv_if_eq (tgt := 21) hx hb dX10_lose_16 (by decide) (fun c3 => ?_) (fun c3 => ?_)
    · exact absurd c3 (by decide)
    · skip
      refine lv_iconst (v := 0) hx hb dX10_lose_19 (by decide) ?_
      exact W.iret (v := 0) hx hb hr (fun t ht hW => ⟨⟨0, (), rfl, (by simp [sp_lose, hka, c3]), trivial⟩, hS.F ht⟩) hS.2.2 dX10_lose_20
set_option maxHeartbeats 4000000 in
set_option maxRecDepth 100000 in
theorem c_X10_put (l : Launch) (dC : Nat → ClassId) (dI : Nat → Nat → Nat) (cS : ClassId) (sz : Nat) (qx : Nat) (x0 : Value) (x1 : Value) (x2 : Value) (x3 : Value) (x4 : Value) (x6 : Value) (x7 : Value) (x8 : Value) (x9 : Value) (x10 : Value) (x11 : Value) (x12 : Value) (sh : Nat) (t0 : Nat) (t1 : Nat) (t2 : Nat) (t3 : Nat) (d0 : Nat) (d1 : Nat) (d2 : Nat) (d3 : Nat) (k : Int32) (i : Int32) (v : Int32)  : Met l yX10_put wsX10_put ({ frames := 4, cells := 0, slots := 0, locals := 130 }) (pw (dC, dI) [(cS, .object RX7)] [(qx, .inr (10, [x0, x1, x2, x3, x4, .ref sh, x6, x7, x8, x9, x10, x11, x12])), (t0, .inr (7, [.ref d0, .int (-1), .int 0])), (t1, .inr (7, [.ref d1, .int (-1), .int 0])), (t2, .inr (7, [.ref d2, .int (-1), .int 0])), (t3, .inr (7, [.ref d3, .int (-1), .int 0])), (sh, .inl (cS, 4, .inr (.inr (.inr (.inr (sh4 t0 t1 t2 t3))))))] sz [.ref qx, .int k, .int i, .int v]) (va_Qi (fun r (_ : Unit) => r = sp_put k) (fun _ _ => True) (va_A [(qx, .inr (10, [x0, x1, x2, x3, x4, .ref sh, x6, x7, x8, x9, x10, x11, x12])), (t0, .inr (7, [.ref d0, .int (-1), .int 0])), (t1, .inr (7, [.ref d1, .int (-1), .int 0])), (t2, .inr (7, [.ref d2, .int (-1), .int 0])), (t3, .inr (7, [.ref d3, .int (-1), .int 0])), (sh, .inl (cS, 4, .inr (.inr (.inr (.inr (sh4 t0 t1 t2 t3))))))] sz)) 0 0 (va_A [(qx, .inr (10, [x0, x1, x2, x3, x4, .ref sh, x6, x7, x8, x9, x10, x11, x12])), (t0, .inr (7, [.ref d0, .int (-1), .int 0])), (t1, .inr (7, [.ref d1, .int (-1), .int 0])), (t2, .inr (7, [.ref d2, .int (-1), .int 0])), (t3, .inr (7, [.ref d3, .int (-1), .int 0])), (sh, .inl (cS, 4, .inr (.inr (.inr (.inr (sh4 t0 t1 t2 t3))))))] sz) := by
  refine pw_met (cc := cX10_put) (maxL := 5) (ret := (some .int)) (by decide) rfl (Nat.le_of_ble_eq_true rfl) ?_
  intro p e s m below meth c0 hx hb hr hml hown hlocks hnm hts hP hK hD hN hsz hA hS ls hl
  subst hsz
  have hl : lv_has ls 5 [(0, .ref qx), (1, .int k), (2, .int i), (3, .int v)] := hl
  have hiX10 : ∀ w ∈ wsX100, w ∈ wsX10_put := by decide +kernel
  refine lv_aload_n hx hb dX10_put_0 rfl (lv_at hl 0 rfl) ?_
  refine lv_iconst (v := 0) hx hb dX10_put_1 (by decide) ?_
  refine va_put (D := (dC, dI)) (ci := 10) (v := .int 0) (ty := .int) (C := RX10) (T := TX10) (N := 13) hx hb hts hiX10 tyX10 tyX10_ok nmX10 hown hK hP hD hS 0 rfl rfl 12 (by decide) (hts (.fieldLink RX10 56 "TributePitches" "latestFault" "I") (by decide +kernel)) (fun _ h9 => h9) rfl (by decide +kernel) rfl rfl (Nat.le_of_ble_eq_true rfl) dX10_put_2 (fun H locs hP hD hS => ?_)
  have hP : va_P (dC, dI) vwCl [(qx, .inr (10, [x0, x1, x2, x3, x4, .ref sh, x6, x7, x8, x9, x10, x11, .int 0])), (t0, .inr (7, [.ref d0, .int (-1), .int 0])), (t1, .inr (7, [.ref d1, .int (-1), .int 0])), (t2, .inr (7, [.ref d2, .int (-1), .int 0])), (t3, .inr (7, [.ref d3, .int (-1), .int 0])), (sh, .inl (cS, 4, .inr (.inr (.inr (.inr (sh4 t0 t1 t2 t3))))))] H := hP
  have hD : va_D _ [(qx, .inr (10, [x0, x1, x2, x3, x4, .ref sh, x6, x7, x8, x9, x10, x11, .int 0])), (t0, .inr (7, [.ref d0, .int (-1), .int 0])), (t1, .inr (7, [.ref d1, .int (-1), .int 0])), (t2, .inr (7, [.ref d2, .int (-1), .int 0])), (t3, .inr (7, [.ref d3, .int (-1), .int 0])), (sh, .inl (cS, 4, .inr (.inr (.inr (.inr (sh4 t0 t1 t2 t3))))))] := hD
  refine lv_aload_n hx hb dX10_put_5 rfl (lv_at hl 0 rfl) ?_
  refine lv_iload_n hx hb dX10_put_6 rfl (lv_at hl 1 rfl) ?_
  have hPc := hP.sub (ws' := [(qx, .inr (10, [x0, x1, x2, x3, x4, .ref sh, x6, x7, x8, x9, x10, x11, .int 0])), (sh, .inl (cS, 4, .inr (.inr (.inr (.inr (sh4 t0 t1 t2 t3))))))]) [0, 5] rfl
  have hDc := hD.sub (ws' := [(qx, .inr (10, [x0, x1, x2, x3, x4, .ref sh, x6, x7, x8, x9, x10, x11, .int 0])), (sh, .inl (cS, 4, .inr (.inr (.inr (.inr (sh4 t0 t1 t2 t3))))))]) [0, 5] (by decide) rfl
  have hKc := hK.sub (tys' := [(cS, .object RX7)]) [0] rfl
  refine va_csq (va_Run.run (va_runV (As := [.int k]) (rest := []) ⟨hx, hb, hml, hown, hts⟩ (c_X10_sheetAt l dC dI cS _ qx x0 x1 x2 x3 x4 x6 x7 x8 x9 x10 x11 (.int 0) sh (sh4 t0 t1 t2 t3) k ) (cwV 1 hts gX10_put_X10_sheetAt rfl rfl rfl (by decide +kernel) ⟨Nat.le_of_ble_eq_true rfl, Nat.le_of_ble_eq_true rfl⟩) (pw_preV (va_recv hKc hPc (ci := 10) (q0 := 0) rfl rfl) hPc hKc hDc hN) rfl rfl hl.1 rfl (lv_room (Nat.le_of_ble_eq_true rfl)) dX10_put_7 ⟨Nat.le_of_ble_eq_true rfl, Nat.le_of_ble_eq_true rfl⟩)) (fun r1 hr1 => ?_)
  have hr1 : (¬ (0 ≤ k ∧ k ≤ 3) ∧ r1 = none) ∨ ((0 ≤ k ∧ k ≤ 3) ∧ r1 = (sh4 t0 t1 t2 t3) k.toNatClampNeg) := hr1
  rcases hr1 with ⟨hka, er1⟩ | ⟨hka, er1⟩
  · subst er1
    refine W.eq (g2 := F0 m 10 ls [.null]) rfl ?_
    refine lv_astoreN (lv' := [(4, .null), (0, .ref qx), (1, .int k), (2, .int i), (3, .int v)]) hx hb dX10_put_10 hl (by decide) rfl (fun ls hl => ?_)
    refine lv_aloadN hx hb dX10_put_12 (lv_at hl 0 rfl) ?_
    refine lv_ifnonnullN hx hb dX10_put_14 ?_
    refine lv_iconst (v := (-1)) hx hb dX10_put_17 (by decide) ?_
    exact W.iret (v := (-1)) hx hb hr (fun t ht hW => ⟨⟨(-1), (), rfl, (by simp [sp_put, hka]), trivial⟩, hS.F ht⟩) hS.2.2 dX10_put_18
  · obtain ⟨saa, eaa, haa⟩ := sh4_some t0 t1 t2 t3 hka
    rw [eaa] at er1
    subst er1
    refine W.eq (g2 := F0 m 10 ls [.ref saa]) rfl ?_
    obtain ⟨caa, hP, hD⟩ : ∃ caa : Nat, va_P (dC, dI) vwCl [(qx, .inr (10, [x0, x1, x2, x3, x4, .ref sh, x6, x7, x8, x9, x10, x11, .int 0])), (saa, .inr (7, [.ref caa, .int (-1), .int 0])), (sh, .inl (cS, 4, .inr (.inr (.inr (.inr (sh4 t0 t1 t2 t3))))))] H ∧ va_D (va_A [(qx, .inr (10, [x0, x1, x2, x3, x4, .ref sh, x6, x7, x8, x9, x10, x11, x12])), (t0, .inr (7, [.ref d0, .int (-1), .int 0])), (t1, .inr (7, [.ref d1, .int (-1), .int 0])), (t2, .inr (7, [.ref d2, .int (-1), .int 0])), (t3, .inr (7, [.ref d3, .int (-1), .int 0])), (sh, .inl (cS, 4, .inr (.inr (.inr (.inr (sh4 t0 t1 t2 t3))))))] s.heap.size) [(qx, .inr (10, [x0, x1, x2, x3, x4, .ref sh, x6, x7, x8, x9, x10, x11, .int 0])), (saa, .inr (7, [.ref caa, .int (-1), .int 0])), (sh, .inl (cS, 4, .inr (.inr (.inr (.inr (sh4 t0 t1 t2 t3))))))] := by
      rcases haa with rfl | rfl | rfl | rfl
      · exact ⟨_, hP.sub [0, 1, 5] rfl, hD.sub [0, 1, 5] (by decide) rfl⟩
      · exact ⟨_, hP.sub [0, 2, 5] rfl, hD.sub [0, 2, 5] (by decide) rfl⟩
      · exact ⟨_, hP.sub [0, 3, 5] rfl, hD.sub [0, 3, 5] (by decide) rfl⟩
      · exact ⟨_, hP.sub [0, 4, 5] rfl, hD.sub [0, 4, 5] (by decide) rfl⟩
    refine lv_astore (lv' := [(4, .ref saa), (0, .ref qx), (1, .int k), (2, .int i), (3, .int v)]) hx hb dX10_put_10 hl (by decide) rfl (fun ls hl => ?_)
    refine lv_aload hx hb dX10_put_12 (lv_at hl 0 rfl) ?_
    refine lv_ifnonnull (tgt := 19) hx hb dX10_put_14 (by decide) ?_
    refine lv_aload hx hb dX10_put_19 (lv_at hl 0 rfl) ?_
    have hPc := hP.sub (ws' := [(saa, .inr (7, [.ref caa, .int (-1), .int 0]))]) [1] rfl
    have hDc := hD.sub (ws' := [(saa, .inr (7, [.ref caa, .int (-1), .int 0]))]) [1] (by decide) rfl
    have hKc := hK.sub (tys' := []) [] rfl
    refine vp_callSi (va_Run.run (va_runV (As := []) (rest := []) ⟨hx, hb, hml, hown, hts⟩ (c_X7_hasNothing l dC dI  _ saa (.ref caa) (.int 0) ) (cwV 0 hts gX10_put_X7_hasNothing rfl rfl rfl (by decide +kernel) ⟨Nat.le_of_ble_eq_true rfl, Nat.le_of_ble_eq_true rfl⟩) (pw_preV (va_recv hKc hPc (ci := 7) (q0 := 0) rfl rfl) hPc hKc hDc hN) rfl rfl hl.1 rfl (lv_room (Nat.le_of_ble_eq_true rfl)) dX10_put_21 ⟨Nat.le_of_ble_eq_true rfl, Nat.le_of_ble_eq_true rfl⟩)) (fun r2 hr2 => ?_)
    have hr2 : r2 = 1 := hr2
    subst hr2
    refine lv_if_eq (tgt := 33) hx hb dX10_put_24 (by decide) (fun c3 => ?_) (fun c3 => ?_)
    · exact absurd c3 (by decide)
    · skip
      refine lv_aload_n hx hb dX10_put_27 rfl (lv_at hl 1 rfl) ?_
      refine lv_iconst (v := 1) hx hb dX10_put_28 (by decide) ?_
      have hPc := hP.sub (ws' := [(qx, .inr (10, [x0, x1, x2, x3, x4, .ref sh, x6, x7, x8, x9, x10, x11, .int 0]))]) [0] rfl
      have hDc := hD.sub (ws' := [(qx, .inr (10, [x0, x1, x2, x3, x4, .ref sh, x6, x7, x8, x9, x10, x11, .int 0]))]) [0] (by decide) rfl
      have hKc := hK.sub (tys' := []) [] rfl
      have hFc := va_free (wc := [(qx, .inr (10, [x0, x1, x2, x3, x4, .ref sh, x6, x7, x8, x9, x10, x11, .int 0]))]) hD hS hA [0] rfl
      refine va_calli (va_runV (As := [.int 1]) (rest := []) ⟨hx, hb, hml, hown, hts⟩ (c_X10_faulted l dC dI  _ qx x0 x1 x2 x3 x4 (.ref sh) x6 x7 x8 x9 x10 x11 (.int 0) 1 ) (cwV 1 hts gX10_put_X10_faulted rfl rfl rfl (by decide +kernel) ⟨Nat.le_of_ble_eq_true rfl, Nat.le_of_ble_eq_true rfl⟩) (pw_preV (va_recv hKc hPc (ci := 10) (q0 := 0) rfl rfl) hPc hKc hDc hN) rfl rfl hl.1 rfl (lv_room (Nat.le_of_ble_eq_true rfl)) dX10_put_29 ⟨Nat.le_of_ble_eq_true rfl, Nat.le_of_ble_eq_true rfl⟩) hS (fun q _ h => hFc q h) hFc (fun r4 u t H1 locs ht hvm hw hB hz1 hk1 hS => ?_)
      have hr4 : r4 = -10 - 1 := hw
      obtain ⟨hP1, hK1, hD1⟩ := hB
      rw [ht] at hP1
      obtain ⟨hP, hD⟩ := va_join (wr := [(saa, .inr (7, [.ref caa, .int (-1), .int 0])), (sh, .inl (cS, 4, .inr (.inr (.inr (.inr (sh4 t0 t1 t2 t3))))))]) (w1 := [(qx, .inr (10, [x0, x1, x2, x3, x4, .ref sh, x6, x7, x8, x9, x10, x11, .int 1]))]) hP hD [0] [1, 2] rfl rfl (by decide) (by decide) hk1 hFc hP1 hD1
      generalize H1 = H at hP hS ⊢
      have hP : va_P (dC, dI) vwCl [(saa, .inr (7, [.ref caa, .int (-1), .int 0])), (sh, .inl (cS, 4, .inr (.inr (.inr (.inr (sh4 t0 t1 t2 t3)))))), (qx, .inr (10, [x0, x1, x2, x3, x4, .ref sh, x6, x7, x8, x9, x10, x11, .int 1]))] H := hP
      have hD : va_D _ [(saa, .inr (7, [.ref caa, .int (-1), .int 0])), (sh, .inl (cS, 4, .inr (.inr (.inr (.inr (sh4 t0 t1 t2 t3)))))), (qx, .inr (10, [x0, x1, x2, x3, x4, .ref sh, x6, x7, x8, x9, x10, x11, .int 1]))] := hD
      exact W.iret (v := r4) hx hb hr (fun t ht hW => ⟨⟨r4, (), rfl, (by rw [hr4]; simp [sp_put, hka, c3]), trivial⟩, hS.F ht⟩) hS.2.2 dX10_put_32
set_option maxHeartbeats 4000000 in
set_option maxRecDepth 100000 in
theorem c_X10_cell (l : Launch) (dC : Nat → ClassId) (dI : Nat → Nat → Nat) (cS : ClassId) (sz : Nat) (qx : Nat) (x0 : Value) (x1 : Value) (x2 : Value) (x3 : Value) (x4 : Value) (x6 : Value) (x7 : Value) (x8 : Value) (x9 : Value) (x10 : Value) (x11 : Value) (x12 : Value) (sh : Nat) (t0 : Nat) (t1 : Nat) (t2 : Nat) (t3 : Nat) (d0 : Nat) (d1 : Nat) (d2 : Nat) (d3 : Nat) (k : Int32) (i : Int32) (ln : Int32)  : Met l yX10_cell wsX10_cell ({ frames := 4, cells := 0, slots := 0, locals := 130 }) (pw (dC, dI) [(cS, .object RX7)] [(qx, .inr (10, [x0, x1, x2, x3, x4, .ref sh, x6, x7, x8, x9, x10, x11, x12])), (t0, .inr (7, [.ref d0, .int (-1), .int 0])), (t1, .inr (7, [.ref d1, .int (-1), .int 0])), (t2, .inr (7, [.ref d2, .int (-1), .int 0])), (t3, .inr (7, [.ref d3, .int (-1), .int 0])), (sh, .inl (cS, 4, .inr (.inr (.inr (.inr (sh4 t0 t1 t2 t3))))))] sz [.ref qx, .int k, .int i, .int ln]) (va_Ql (fun r (_ : Unit) => r = (-9223372036854775808)) (fun _ _ => True) (va_A [(qx, .inr (10, [x0, x1, x2, x3, x4, .ref sh, x6, x7, x8, x9, x10, x11, x12])), (t0, .inr (7, [.ref d0, .int (-1), .int 0])), (t1, .inr (7, [.ref d1, .int (-1), .int 0])), (t2, .inr (7, [.ref d2, .int (-1), .int 0])), (t3, .inr (7, [.ref d3, .int (-1), .int 0])), (sh, .inl (cS, 4, .inr (.inr (.inr (.inr (sh4 t0 t1 t2 t3))))))] sz)) 0 0 (va_A [(qx, .inr (10, [x0, x1, x2, x3, x4, .ref sh, x6, x7, x8, x9, x10, x11, x12])), (t0, .inr (7, [.ref d0, .int (-1), .int 0])), (t1, .inr (7, [.ref d1, .int (-1), .int 0])), (t2, .inr (7, [.ref d2, .int (-1), .int 0])), (t3, .inr (7, [.ref d3, .int (-1), .int 0])), (sh, .inl (cS, 4, .inr (.inr (.inr (.inr (sh4 t0 t1 t2 t3))))))] sz) := by
  refine pw_met (cc := cX10_cell) (maxL := 5) (ret := (some .long)) (by decide) rfl (Nat.le_of_ble_eq_true rfl) ?_
  intro p e s m below meth c0 hx hb hr hml hown hlocks hnm hts hP hK hD hN hsz hA hS ls hl
  subst hsz
  have hl : lv_has ls 5 [(0, .ref qx), (1, .int k), (2, .int i), (3, .int ln)] := hl
  have hiX10 : ∀ w ∈ wsX100, w ∈ wsX10_cell := by decide +kernel
  refine lv_aload_n hx hb dX10_cell_0 rfl (lv_at hl 0 rfl) ?_
  refine lv_iconst (v := 0) hx hb dX10_cell_1 (by decide) ?_
  refine va_put (D := (dC, dI)) (ci := 10) (v := .int 0) (ty := .int) (C := RX10) (T := TX10) (N := 13) hx hb hts hiX10 tyX10 tyX10_ok nmX10 hown hK hP hD hS 0 rfl rfl 12 (by decide) (hts (.fieldLink RX10 56 "TributePitches" "latestFault" "I") (by decide +kernel)) (fun _ h9 => h9) rfl (by decide +kernel) rfl rfl (Nat.le_of_ble_eq_true rfl) dX10_cell_2 (fun H locs hP hD hS => ?_)
  have hP : va_P (dC, dI) vwCl [(qx, .inr (10, [x0, x1, x2, x3, x4, .ref sh, x6, x7, x8, x9, x10, x11, .int 0])), (t0, .inr (7, [.ref d0, .int (-1), .int 0])), (t1, .inr (7, [.ref d1, .int (-1), .int 0])), (t2, .inr (7, [.ref d2, .int (-1), .int 0])), (t3, .inr (7, [.ref d3, .int (-1), .int 0])), (sh, .inl (cS, 4, .inr (.inr (.inr (.inr (sh4 t0 t1 t2 t3))))))] H := hP
  have hD : va_D _ [(qx, .inr (10, [x0, x1, x2, x3, x4, .ref sh, x6, x7, x8, x9, x10, x11, .int 0])), (t0, .inr (7, [.ref d0, .int (-1), .int 0])), (t1, .inr (7, [.ref d1, .int (-1), .int 0])), (t2, .inr (7, [.ref d2, .int (-1), .int 0])), (t3, .inr (7, [.ref d3, .int (-1), .int 0])), (sh, .inl (cS, 4, .inr (.inr (.inr (.inr (sh4 t0 t1 t2 t3))))))] := hD
  refine lv_aload_n hx hb dX10_cell_5 rfl (lv_at hl 0 rfl) ?_
  refine lv_iload_n hx hb dX10_cell_6 rfl (lv_at hl 1 rfl) ?_
  have hPc := hP.sub (ws' := [(qx, .inr (10, [x0, x1, x2, x3, x4, .ref sh, x6, x7, x8, x9, x10, x11, .int 0])), (sh, .inl (cS, 4, .inr (.inr (.inr (.inr (sh4 t0 t1 t2 t3))))))]) [0, 5] rfl
  have hDc := hD.sub (ws' := [(qx, .inr (10, [x0, x1, x2, x3, x4, .ref sh, x6, x7, x8, x9, x10, x11, .int 0])), (sh, .inl (cS, 4, .inr (.inr (.inr (.inr (sh4 t0 t1 t2 t3))))))]) [0, 5] (by decide) rfl
  have hKc := hK.sub (tys' := [(cS, .object RX7)]) [0] rfl
  refine va_csq (va_Run.run (va_runV (As := [.int k]) (rest := []) ⟨hx, hb, hml, hown, hts⟩ (c_X10_sheetAt l dC dI cS _ qx x0 x1 x2 x3 x4 x6 x7 x8 x9 x10 x11 (.int 0) sh (sh4 t0 t1 t2 t3) k ) (cwV 1 hts gX10_cell_X10_sheetAt rfl rfl rfl (by decide +kernel) ⟨Nat.le_of_ble_eq_true rfl, Nat.le_of_ble_eq_true rfl⟩) (pw_preV (va_recv hKc hPc (ci := 10) (q0 := 0) rfl rfl) hPc hKc hDc hN) rfl rfl hl.1 rfl (lv_room (Nat.le_of_ble_eq_true rfl)) dX10_cell_7 ⟨Nat.le_of_ble_eq_true rfl, Nat.le_of_ble_eq_true rfl⟩)) (fun r1 hr1 => ?_)
  have hr1 : (¬ (0 ≤ k ∧ k ≤ 3) ∧ r1 = none) ∨ ((0 ≤ k ∧ k ≤ 3) ∧ r1 = (sh4 t0 t1 t2 t3) k.toNatClampNeg) := hr1
  rcases hr1 with ⟨hka, er1⟩ | ⟨hka, er1⟩
  · subst er1
    refine W.eq (g2 := F0 m 10 ls [.null]) rfl ?_
    refine lv_astoreN (lv' := [(4, .null), (0, .ref qx), (1, .int k), (2, .int i), (3, .int ln)]) hx hb dX10_cell_10 hl (by decide) rfl (fun ls hl => ?_)
    refine lv_aloadN hx hb dX10_cell_12 (lv_at hl 0 rfl) ?_
    refine lv_ifnullN (tgt := 24) hx hb dX10_cell_14 (by decide) ?_
    refine lv_ldc2 (v := (-9223372036854775808)) hx hb hown (hts (.constantLong RX10 137 (-9223372036854775808)) (by decide +kernel)) dX10_cell_24 ?_
    exact W.lret (v := (-9223372036854775808)) hx hb hr (fun t ht hW => ⟨⟨(-9223372036854775808), (), rfl, rfl, trivial⟩, hS.F ht⟩) hS.2.2 dX10_cell_27
  · obtain ⟨saa, eaa, haa⟩ := sh4_some t0 t1 t2 t3 hka
    rw [eaa] at er1
    subst er1
    refine W.eq (g2 := F0 m 10 ls [.ref saa]) rfl ?_
    obtain ⟨caa, hP, hD⟩ : ∃ caa : Nat, va_P (dC, dI) vwCl [(qx, .inr (10, [x0, x1, x2, x3, x4, .ref sh, x6, x7, x8, x9, x10, x11, .int 0])), (saa, .inr (7, [.ref caa, .int (-1), .int 0])), (sh, .inl (cS, 4, .inr (.inr (.inr (.inr (sh4 t0 t1 t2 t3))))))] H ∧ va_D (va_A [(qx, .inr (10, [x0, x1, x2, x3, x4, .ref sh, x6, x7, x8, x9, x10, x11, x12])), (t0, .inr (7, [.ref d0, .int (-1), .int 0])), (t1, .inr (7, [.ref d1, .int (-1), .int 0])), (t2, .inr (7, [.ref d2, .int (-1), .int 0])), (t3, .inr (7, [.ref d3, .int (-1), .int 0])), (sh, .inl (cS, 4, .inr (.inr (.inr (.inr (sh4 t0 t1 t2 t3))))))] s.heap.size) [(qx, .inr (10, [x0, x1, x2, x3, x4, .ref sh, x6, x7, x8, x9, x10, x11, .int 0])), (saa, .inr (7, [.ref caa, .int (-1), .int 0])), (sh, .inl (cS, 4, .inr (.inr (.inr (.inr (sh4 t0 t1 t2 t3))))))] := by
      rcases haa with rfl | rfl | rfl | rfl
      · exact ⟨_, hP.sub [0, 1, 5] rfl, hD.sub [0, 1, 5] (by decide) rfl⟩
      · exact ⟨_, hP.sub [0, 2, 5] rfl, hD.sub [0, 2, 5] (by decide) rfl⟩
      · exact ⟨_, hP.sub [0, 3, 5] rfl, hD.sub [0, 3, 5] (by decide) rfl⟩
      · exact ⟨_, hP.sub [0, 4, 5] rfl, hD.sub [0, 4, 5] (by decide) rfl⟩
    refine lv_astore (lv' := [(4, .ref saa), (0, .ref qx), (1, .int k), (2, .int i), (3, .int ln)]) hx hb dX10_cell_10 hl (by decide) rfl (fun ls hl => ?_)
    refine lv_aload hx hb dX10_cell_12 (lv_at hl 0 rfl) ?_
    refine lv_ifnull hx hb dX10_cell_14 ?_
    refine lv_iload_n hx hb dX10_cell_17 rfl (lv_at hl 4 rfl) ?_
    refine vp_callSi (va_Run.run (va_runS (As := [.int ln]) (rest := []) ⟨hx, hb, hml, hown, hts⟩ (c_X7_isLane l ln ) (va_cwS 1 hts gX10_cell_X7_isLane rfl rfl rfl (by decide +kernel) ⟨Nat.le_of_ble_eq_true rfl, Nat.le_of_ble_eq_true rfl⟩) (p0_preS hN) rfl rfl hl.1 rfl (lv_room (Nat.le_of_ble_eq_true rfl)) dX10_cell_18 ⟨Nat.le_of_ble_eq_true rfl, Nat.le_of_ble_eq_true rfl⟩)) (fun r2 hr2 => ?_)
    have hr2 : r2 = if 0 ≤ ln ∧ ln ≤ 2 then 1 else 0 := hr2
    refine lv_if_ne (tgt := 28) hx hb dX10_cell_21 (by decide) (fun c3 => ?_) (fun c3 => ?_)
    · skip
      have c3 := (fa_bool_prop hr2).2.mp c3
      refine lv_aload_n hx hb dX10_cell_28 rfl (lv_at hl 1 rfl) ?_
      refine lv_aload hx hb dX10_cell_29 (lv_at hl 0 rfl) ?_
      refine lv_iload_n hx hb dX10_cell_31 rfl (lv_at hl 4 rfl) ?_
      have hPc := hP.sub (ws' := [(saa, .inr (7, [.ref caa, .int (-1), .int 0]))]) [1] rfl
      have hDc := hD.sub (ws' := [(saa, .inr (7, [.ref caa, .int (-1), .int 0]))]) [1] (by decide) rfl
      have hKc := hK.sub (tys' := []) [] rfl
      refine vp_callSi (va_Run.run (va_runV (As := [.int ln]) (rest := [.ref qx]) ⟨hx, hb, hml, hown, hts⟩ (c_X7_faultAs l dC dI  _ saa (.ref caa) (.int 0) ln ) (cwV 1 hts gX10_cell_X7_faultAs rfl rfl rfl (by decide +kernel) ⟨Nat.le_of_ble_eq_true rfl, Nat.le_of_ble_eq_true rfl⟩) (pw_preV (va_recv hKc hPc (ci := 7) (q0 := 0) rfl rfl) hPc hKc hDc hN) rfl rfl hl.1 rfl (lv_room (Nat.le_of_ble_eq_true rfl)) dX10_cell_32 ⟨Nat.le_of_ble_eq_true rfl, Nat.le_of_ble_eq_true rfl⟩)) (fun r4 hr4 => ?_)
      have hr4 : r4 = 1 := hr4
      subst hr4
      refine va_put (D := (dC, dI)) (ci := 10) (v := .int 1) (ty := .int) (C := RX10) (T := TX10) (N := 13) hx hb hts hiX10 tyX10 tyX10_ok nmX10 hown hK hP hD hS 0 rfl rfl 12 (by decide) (hts (.fieldLink RX10 56 "TributePitches" "latestFault" "I") (by decide +kernel)) (fun _ h9 => h9) rfl (by decide +kernel) rfl rfl (Nat.le_of_ble_eq_true rfl) dX10_cell_35 (fun H locs hP hD hS => ?_)
      have hP : va_P (dC, dI) vwCl [(qx, .inr (10, [x0, x1, x2, x3, x4, .ref sh, x6, x7, x8, x9, x10, x11, .int 1])), (saa, .inr (7, [.ref caa, .int (-1), .int 0])), (sh, .inl (cS, 4, .inr (.inr (.inr (.inr (sh4 t0 t1 t2 t3))))))] H := hP
      have hD : va_D _ [(qx, .inr (10, [x0, x1, x2, x3, x4, .ref sh, x6, x7, x8, x9, x10, x11, .int 1])), (saa, .inr (7, [.ref caa, .int (-1), .int 0])), (sh, .inl (cS, 4, .inr (.inr (.inr (.inr (sh4 t0 t1 t2 t3))))))] := hD
      refine lv_aload_n hx hb dX10_cell_38 rfl (lv_at hl 1 rfl) ?_
      refine va_get (D := (dC, dI)) (ci := 10) (v := .int 1) (C := RX10) (T := TX10) (N := 13) hx hb hts hiX10 hown hK hP 0 rfl rfl 12 (by decide) (hts (.fieldLink RX10 56 "TributePitches" "latestFault" "I") (by decide +kernel)) (fun _ h9 => h9) rfl dX10_cell_39 ?_
      refine lv_if_ne (tgt := 60) hx hb dX10_cell_42 (by decide) (fun c5 => ?_) (fun c5 => ?_)
      · skip
        refine lv_aload_n hx hb dX10_cell_60 rfl (lv_at hl 1 rfl) ?_
        refine va_get (D := (dC, dI)) (ci := 10) (v := .int 1) (C := RX10) (T := TX10) (N := 13) hx hb hts hiX10 hown hK hP 0 rfl rfl 12 (by decide) (hts (.fieldLink RX10 56 "TributePitches" "latestFault" "I") (by decide +kernel)) (fun _ h9 => h9) rfl dX10_cell_61 ?_
        refine lv_if_ne (tgt := 78) hx hb dX10_cell_64 (by decide) (fun c6 => ?_) (fun c6 => ?_)
        · skip
          refine lv_ldc2 (v := (-9223372036854775808)) hx hb hown (hts (.constantLong RX10 137 (-9223372036854775808)) (by decide +kernel)) dX10_cell_78 ?_
          exact W.lret (v := (-9223372036854775808)) hx hb hr (fun t ht hW => ⟨⟨(-9223372036854775808), (), rfl, rfl, trivial⟩, hS.F ht⟩) hS.2.2 dX10_cell_81
        · exact absurd c6 (by decide)
      · exact absurd c5 (by decide)
    · skip
      have c3 := (fa_bool_prop hr2).1.mp c3
      refine lv_ldc2 (v := (-9223372036854775808)) hx hb hown (hts (.constantLong RX10 137 (-9223372036854775808)) (by decide +kernel)) dX10_cell_24 ?_
      exact W.lret (v := (-9223372036854775808)) hx hb hr (fun t ht hW => ⟨⟨(-9223372036854775808), (), rfl, rfl, trivial⟩, hS.F ht⟩) hS.2.2 dX10_cell_27
set_option maxHeartbeats 4000000 in
set_option maxRecDepth 100000 in
theorem c_X10_copy (l : Launch) (dC : Nat → ClassId) (dI : Nat → Nat → Nat) (cS : ClassId) (sz : Nat) (qx : Nat) (x0 : Value) (x1 : Value) (x2 : Value) (x3 : Value) (x4 : Value) (x6 : Value) (x7 : Value) (x8 : Value) (x9 : Value) (x10 : Value) (x11 : Value) (x12 : Value) (sh : Nat) (t0 : Nat) (t1 : Nat) (t2 : Nat) (t3 : Nat) (d0 : Nat) (d1 : Nat) (d2 : Nat) (d3 : Nat) (k : Int32) (i : Int32) (ot : Int32) (j : Int32) (n : Int32)  : Met l yX10_copy wsX10_copy ({ frames := 4, cells := 0, slots := 0, locals := 130 }) (pw (dC, dI) [(cS, .object RX7)] [(qx, .inr (10, [x0, x1, x2, x3, x4, .ref sh, x6, x7, x8, x9, x10, x11, x12])), (t0, .inr (7, [.ref d0, .int (-1), .int 0])), (t1, .inr (7, [.ref d1, .int (-1), .int 0])), (t2, .inr (7, [.ref d2, .int (-1), .int 0])), (t3, .inr (7, [.ref d3, .int (-1), .int 0])), (sh, .inl (cS, 4, .inr (.inr (.inr (.inr (sh4 t0 t1 t2 t3))))))] sz [.ref qx, .int k, .int i, .int ot, .int j, .int n]) (va_Qi (fun r (_ : Unit) => r = sp_copy k ot) (fun _ _ => True) (va_A [(qx, .inr (10, [x0, x1, x2, x3, x4, .ref sh, x6, x7, x8, x9, x10, x11, x12])), (t0, .inr (7, [.ref d0, .int (-1), .int 0])), (t1, .inr (7, [.ref d1, .int (-1), .int 0])), (t2, .inr (7, [.ref d2, .int (-1), .int 0])), (t3, .inr (7, [.ref d3, .int (-1), .int 0])), (sh, .inl (cS, 4, .inr (.inr (.inr (.inr (sh4 t0 t1 t2 t3))))))] sz)) 0 0 (va_A [(qx, .inr (10, [x0, x1, x2, x3, x4, .ref sh, x6, x7, x8, x9, x10, x11, x12])), (t0, .inr (7, [.ref d0, .int (-1), .int 0])), (t1, .inr (7, [.ref d1, .int (-1), .int 0])), (t2, .inr (7, [.ref d2, .int (-1), .int 0])), (t3, .inr (7, [.ref d3, .int (-1), .int 0])), (sh, .inl (cS, 4, .inr (.inr (.inr (.inr (sh4 t0 t1 t2 t3))))))] sz) := by
  refine pw_met (cc := cX10_copy) (maxL := 8) (ret := (some .int)) (by decide) rfl (Nat.le_of_ble_eq_true rfl) ?_
  intro p e s m below meth c0 hx hb hr hml hown hlocks hnm hts hP hK hD hN hsz hA hS ls hl
  subst hsz
  have hl : lv_has ls 8 [(0, .ref qx), (1, .int k), (2, .int i), (3, .int ot), (4, .int j), (5, .int n)] := hl
  have hiX10 : ∀ w ∈ wsX100, w ∈ wsX10_copy := by decide +kernel
  refine lv_aload_n hx hb dX10_copy_0 rfl (lv_at hl 0 rfl) ?_
  refine lv_iconst (v := 0) hx hb dX10_copy_1 (by decide) ?_
  refine va_put (D := (dC, dI)) (ci := 10) (v := .int 0) (ty := .int) (C := RX10) (T := TX10) (N := 13) hx hb hts hiX10 tyX10 tyX10_ok nmX10 hown hK hP hD hS 0 rfl rfl 12 (by decide) (hts (.fieldLink RX10 56 "TributePitches" "latestFault" "I") (by decide +kernel)) (fun _ h9 => h9) rfl (by decide +kernel) rfl rfl (Nat.le_of_ble_eq_true rfl) dX10_copy_2 (fun H locs hP hD hS => ?_)
  have hP : va_P (dC, dI) vwCl [(qx, .inr (10, [x0, x1, x2, x3, x4, .ref sh, x6, x7, x8, x9, x10, x11, .int 0])), (t0, .inr (7, [.ref d0, .int (-1), .int 0])), (t1, .inr (7, [.ref d1, .int (-1), .int 0])), (t2, .inr (7, [.ref d2, .int (-1), .int 0])), (t3, .inr (7, [.ref d3, .int (-1), .int 0])), (sh, .inl (cS, 4, .inr (.inr (.inr (.inr (sh4 t0 t1 t2 t3))))))] H := hP
  have hD : va_D _ [(qx, .inr (10, [x0, x1, x2, x3, x4, .ref sh, x6, x7, x8, x9, x10, x11, .int 0])), (t0, .inr (7, [.ref d0, .int (-1), .int 0])), (t1, .inr (7, [.ref d1, .int (-1), .int 0])), (t2, .inr (7, [.ref d2, .int (-1), .int 0])), (t3, .inr (7, [.ref d3, .int (-1), .int 0])), (sh, .inl (cS, 4, .inr (.inr (.inr (.inr (sh4 t0 t1 t2 t3))))))] := hD
  refine lv_aload_n hx hb dX10_copy_5 rfl (lv_at hl 0 rfl) ?_
  refine lv_iload_n hx hb dX10_copy_6 rfl (lv_at hl 1 rfl) ?_
  have hPc := hP.sub (ws' := [(qx, .inr (10, [x0, x1, x2, x3, x4, .ref sh, x6, x7, x8, x9, x10, x11, .int 0])), (sh, .inl (cS, 4, .inr (.inr (.inr (.inr (sh4 t0 t1 t2 t3))))))]) [0, 5] rfl
  have hDc := hD.sub (ws' := [(qx, .inr (10, [x0, x1, x2, x3, x4, .ref sh, x6, x7, x8, x9, x10, x11, .int 0])), (sh, .inl (cS, 4, .inr (.inr (.inr (.inr (sh4 t0 t1 t2 t3))))))]) [0, 5] (by decide) rfl
  have hKc := hK.sub (tys' := [(cS, .object RX7)]) [0] rfl
  refine va_csq (va_Run.run (va_runV (As := [.int k]) (rest := []) ⟨hx, hb, hml, hown, hts⟩ (c_X10_sheetAt l dC dI cS _ qx x0 x1 x2 x3 x4 x6 x7 x8 x9 x10 x11 (.int 0) sh (sh4 t0 t1 t2 t3) k ) (cwV 1 hts gX10_copy_X10_sheetAt rfl rfl rfl (by decide +kernel) ⟨Nat.le_of_ble_eq_true rfl, Nat.le_of_ble_eq_true rfl⟩) (pw_preV (va_recv hKc hPc (ci := 10) (q0 := 0) rfl rfl) hPc hKc hDc hN) rfl rfl hl.1 rfl (lv_room (Nat.le_of_ble_eq_true rfl)) dX10_copy_7 ⟨Nat.le_of_ble_eq_true rfl, Nat.le_of_ble_eq_true rfl⟩)) (fun r1 hr1 => ?_)
  have hr1 : (¬ (0 ≤ k ∧ k ≤ 3) ∧ r1 = none) ∨ ((0 ≤ k ∧ k ≤ 3) ∧ r1 = (sh4 t0 t1 t2 t3) k.toNatClampNeg) := hr1
  rcases hr1 with ⟨hka, er1⟩ | ⟨hka, er1⟩
  · subst er1
    refine W.eq (g2 := F0 m 10 ls [.null]) rfl ?_
    refine lv_astoreN (lv' := [(6, .null), (0, .ref qx), (1, .int k), (2, .int i), (3, .int ot), (4, .int j), (5, .int n)]) hx hb dX10_copy_10 hl (by decide) rfl (fun ls hl => ?_)
    refine lv_aload_n hx hb dX10_copy_12 rfl (lv_at hl 1 rfl) ?_
    refine lv_iload_n hx hb dX10_copy_13 rfl (lv_at hl 4 rfl) ?_
    have hPc := hP.sub (ws' := [(qx, .inr (10, [x0, x1, x2, x3, x4, .ref sh, x6, x7, x8, x9, x10, x11, .int 0])), (sh, .inl (cS, 4, .inr (.inr (.inr (.inr (sh4 t0 t1 t2 t3))))))]) [0, 5] rfl
    have hDc := hD.sub (ws' := [(qx, .inr (10, [x0, x1, x2, x3, x4, .ref sh, x6, x7, x8, x9, x10, x11, .int 0])), (sh, .inl (cS, 4, .inr (.inr (.inr (.inr (sh4 t0 t1 t2 t3))))))]) [0, 5] (by decide) rfl
    have hKc := hK.sub (tys' := [(cS, .object RX7)]) [0] rfl
    refine va_csq (va_Run.run (va_runV (As := [.int ot]) (rest := []) ⟨hx, hb, hml, hown, hts⟩ (c_X10_sheetAt l dC dI cS _ qx x0 x1 x2 x3 x4 x6 x7 x8 x9 x10 x11 (.int 0) sh (sh4 t0 t1 t2 t3) ot ) (cwV 1 hts gX10_copy_X10_sheetAt rfl rfl rfl (by decide +kernel) ⟨Nat.le_of_ble_eq_true rfl, Nat.le_of_ble_eq_true rfl⟩) (pw_preV (va_recv hKc hPc (ci := 10) (q0 := 0) rfl rfl) hPc hKc hDc hN) rfl rfl hl.1 rfl (lv_room (Nat.le_of_ble_eq_true rfl)) dX10_copy_14 ⟨Nat.le_of_ble_eq_true rfl, Nat.le_of_ble_eq_true rfl⟩)) (fun r2 hr2 => ?_)
    have hr2 : (¬ (0 ≤ ot ∧ ot ≤ 3) ∧ r2 = none) ∨ ((0 ≤ ot ∧ ot ≤ 3) ∧ r2 = (sh4 t0 t1 t2 t3) ot.toNatClampNeg) := hr2
    rcases hr2 with ⟨hkb, er2⟩ | ⟨hkb, er2⟩
    · subst er2
      refine W.eq (g2 := F0 m 17 ls [.null]) rfl ?_
      refine lv_astoreN (lv' := [(7, .null), (6, .null), (0, .ref qx), (1, .int k), (2, .int i), (3, .int ot), (4, .int j), (5, .int n)]) hx hb dX10_copy_17 hl (by decide) rfl (fun ls hl => ?_)
      refine lv_aloadN hx hb dX10_copy_19 (lv_at hl 1 rfl) ?_
      refine lv_ifnullN (tgt := 29) hx hb dX10_copy_21 (by decide) ?_
      refine lv_iconst (v := (-1)) hx hb dX10_copy_29 (by decide) ?_
      exact W.iret (v := (-1)) hx hb hr (fun t ht hW => ⟨⟨(-1), (), rfl, (by simp [sp_copy, hka, hkb]), trivial⟩, hS.F ht⟩) hS.2.2 dX10_copy_30
    · obtain ⟨sab, eab, hab⟩ := sh4_some t0 t1 t2 t3 hkb
      rw [eab] at er2
      subst er2
      refine W.eq (g2 := F0 m 17 ls [.ref sab]) rfl ?_
      refine lv_astore (lv' := [(7, .ref sab), (6, .null), (0, .ref qx), (1, .int k), (2, .int i), (3, .int ot), (4, .int j), (5, .int n)]) hx hb dX10_copy_17 hl (by decide) rfl (fun ls hl => ?_)
      refine lv_aloadN hx hb dX10_copy_19 (lv_at hl 1 rfl) ?_
      refine lv_ifnullN (tgt := 29) hx hb dX10_copy_21 (by decide) ?_
      refine lv_iconst (v := (-1)) hx hb dX10_copy_29 (by decide) ?_
      exact W.iret (v := (-1)) hx hb hr (fun t ht hW => ⟨⟨(-1), (), rfl, (by simp [sp_copy, hka, hkb]), trivial⟩, hS.F ht⟩) hS.2.2 dX10_copy_30
  · obtain ⟨saa, eaa, haa⟩ := sh4_some t0 t1 t2 t3 hka
    rw [eaa] at er1
    subst er1
    refine W.eq (g2 := F0 m 10 ls [.ref saa]) rfl ?_
    obtain ⟨caa, hP, hD⟩ : ∃ caa : Nat, va_P (dC, dI) vwCl [(qx, .inr (10, [x0, x1, x2, x3, x4, .ref sh, x6, x7, x8, x9, x10, x11, .int 0])), (saa, .inr (7, [.ref caa, .int (-1), .int 0])), (sh, .inl (cS, 4, .inr (.inr (.inr (.inr (sh4 t0 t1 t2 t3))))))] H ∧ va_D (va_A [(qx, .inr (10, [x0, x1, x2, x3, x4, .ref sh, x6, x7, x8, x9, x10, x11, x12])), (t0, .inr (7, [.ref d0, .int (-1), .int 0])), (t1, .inr (7, [.ref d1, .int (-1), .int 0])), (t2, .inr (7, [.ref d2, .int (-1), .int 0])), (t3, .inr (7, [.ref d3, .int (-1), .int 0])), (sh, .inl (cS, 4, .inr (.inr (.inr (.inr (sh4 t0 t1 t2 t3))))))] s.heap.size) [(qx, .inr (10, [x0, x1, x2, x3, x4, .ref sh, x6, x7, x8, x9, x10, x11, .int 0])), (saa, .inr (7, [.ref caa, .int (-1), .int 0])), (sh, .inl (cS, 4, .inr (.inr (.inr (.inr (sh4 t0 t1 t2 t3))))))] := by
      rcases haa with rfl | rfl | rfl | rfl
      · exact ⟨_, hP.sub [0, 1, 5] rfl, hD.sub [0, 1, 5] (by decide) rfl⟩
      · exact ⟨_, hP.sub [0, 2, 5] rfl, hD.sub [0, 2, 5] (by decide) rfl⟩
      · exact ⟨_, hP.sub [0, 3, 5] rfl, hD.sub [0, 3, 5] (by decide) rfl⟩
      · exact ⟨_, hP.sub [0, 4, 5] rfl, hD.sub [0, 4, 5] (by decide) rfl⟩
    refine lv_astore (lv' := [(6, .ref saa), (0, .ref qx), (1, .int k), (2, .int i), (3, .int ot), (4, .int j), (5, .int n)]) hx hb dX10_copy_10 hl (by decide) rfl (fun ls hl => ?_)
    refine lv_aload_n hx hb dX10_copy_12 rfl (lv_at hl 1 rfl) ?_
    refine lv_iload_n hx hb dX10_copy_13 rfl (lv_at hl 4 rfl) ?_
    have hPc := hP.sub (ws' := [(qx, .inr (10, [x0, x1, x2, x3, x4, .ref sh, x6, x7, x8, x9, x10, x11, .int 0])), (sh, .inl (cS, 4, .inr (.inr (.inr (.inr (sh4 t0 t1 t2 t3))))))]) [0, 2] rfl
    have hDc := hD.sub (ws' := [(qx, .inr (10, [x0, x1, x2, x3, x4, .ref sh, x6, x7, x8, x9, x10, x11, .int 0])), (sh, .inl (cS, 4, .inr (.inr (.inr (.inr (sh4 t0 t1 t2 t3))))))]) [0, 2] (by decide) rfl
    have hKc := hK.sub (tys' := [(cS, .object RX7)]) [0] rfl
    refine va_csq (va_Run.run (va_runV (As := [.int ot]) (rest := []) ⟨hx, hb, hml, hown, hts⟩ (c_X10_sheetAt l dC dI cS _ qx x0 x1 x2 x3 x4 x6 x7 x8 x9 x10 x11 (.int 0) sh (sh4 t0 t1 t2 t3) ot ) (cwV 1 hts gX10_copy_X10_sheetAt rfl rfl rfl (by decide +kernel) ⟨Nat.le_of_ble_eq_true rfl, Nat.le_of_ble_eq_true rfl⟩) (pw_preV (va_recv hKc hPc (ci := 10) (q0 := 0) rfl rfl) hPc hKc hDc hN) rfl rfl hl.1 rfl (lv_room (Nat.le_of_ble_eq_true rfl)) dX10_copy_14 ⟨Nat.le_of_ble_eq_true rfl, Nat.le_of_ble_eq_true rfl⟩)) (fun r3 hr3 => ?_)
    have hr3 : (¬ (0 ≤ ot ∧ ot ≤ 3) ∧ r3 = none) ∨ ((0 ≤ ot ∧ ot ≤ 3) ∧ r3 = (sh4 t0 t1 t2 t3) ot.toNatClampNeg) := hr3
    rcases hr3 with ⟨hkb, er3⟩ | ⟨hkb, er3⟩
    · subst er3
      refine W.eq (g2 := F0 m 17 ls [.null]) rfl ?_
      refine lv_astoreN (lv' := [(7, .null), (6, .ref saa), (0, .ref qx), (1, .int k), (2, .int i), (3, .int ot), (4, .int j), (5, .int n)]) hx hb dX10_copy_17 hl (by decide) rfl (fun ls hl => ?_)
      refine lv_aload hx hb dX10_copy_19 (lv_at hl 1 rfl) ?_
      refine lv_ifnull hx hb dX10_copy_21 ?_
      refine lv_aloadN hx hb dX10_copy_24 (lv_at hl 0 rfl) ?_
      refine lv_ifnonnullN hx hb dX10_copy_26 ?_
      refine lv_iconst (v := (-1)) hx hb dX10_copy_29 (by decide) ?_
      exact W.iret (v := (-1)) hx hb hr (fun t ht hW => ⟨⟨(-1), (), rfl, (by simp [sp_copy, hka, hkb]), trivial⟩, hS.F ht⟩) hS.2.2 dX10_copy_30
    · obtain ⟨sab, eab, hab⟩ := sh4_some t0 t1 t2 t3 hkb
      rw [eab] at er3
      subst er3
      refine W.eq (g2 := F0 m 17 ls [.ref sab]) rfl ?_
      refine lv_astore (lv' := [(7, .ref sab), (6, .ref saa), (0, .ref qx), (1, .int k), (2, .int i), (3, .int ot), (4, .int j), (5, .int n)]) hx hb dX10_copy_17 hl (by decide) rfl (fun ls hl => ?_)
      refine lv_aload hx hb dX10_copy_19 (lv_at hl 1 rfl) ?_
      refine lv_ifnull hx hb dX10_copy_21 ?_
      refine lv_aload hx hb dX10_copy_24 (lv_at hl 0 rfl) ?_
      refine lv_ifnonnull (tgt := 31) hx hb dX10_copy_26 (by decide) ?_
      refine lv_aload hx hb dX10_copy_31 (lv_at hl 1 rfl) ?_
      have hPc := hP.sub (ws' := [(saa, .inr (7, [.ref caa, .int (-1), .int 0]))]) [1] rfl
      have hDc := hD.sub (ws' := [(saa, .inr (7, [.ref caa, .int (-1), .int 0]))]) [1] (by decide) rfl
      have hKc := hK.sub (tys' := []) [] rfl
      refine vp_callSi (va_Run.run (va_runV (As := []) (rest := []) ⟨hx, hb, hml, hown, hts⟩ (c_X7_hasNothing l dC dI  _ saa (.ref caa) (.int 0) ) (cwV 0 hts gX10_copy_X7_hasNothing rfl rfl rfl (by decide +kernel) ⟨Nat.le_of_ble_eq_true rfl, Nat.le_of_ble_eq_true rfl⟩) (pw_preV (va_recv hKc hPc (ci := 7) (q0 := 0) rfl rfl) hPc hKc hDc hN) rfl rfl hl.1 rfl (lv_room (Nat.le_of_ble_eq_true rfl)) dX10_copy_33 ⟨Nat.le_of_ble_eq_true rfl, Nat.le_of_ble_eq_true rfl⟩)) (fun r4 hr4 => ?_)
      have hr4 : r4 = 1 := hr4
      subst hr4
      refine lv_if_ne (tgt := 47) hx hb dX10_copy_36 (by decide) (fun c5 => ?_) (fun c5 => ?_)
      · skip
        refine lv_aload_n hx hb dX10_copy_47 rfl (lv_at hl 2 rfl) ?_
        refine lv_iconst (v := 1) hx hb dX10_copy_48 (by decide) ?_
        have hPc := hP.sub (ws' := [(qx, .inr (10, [x0, x1, x2, x3, x4, .ref sh, x6, x7, x8, x9, x10, x11, .int 0]))]) [0] rfl
        have hDc := hD.sub (ws' := [(qx, .inr (10, [x0, x1, x2, x3, x4, .ref sh, x6, x7, x8, x9, x10, x11, .int 0]))]) [0] (by decide) rfl
        have hKc := hK.sub (tys' := []) [] rfl
        have hFc := va_free (wc := [(qx, .inr (10, [x0, x1, x2, x3, x4, .ref sh, x6, x7, x8, x9, x10, x11, .int 0]))]) hD hS hA [0] rfl
        refine va_calli (va_runV (As := [.int 1]) (rest := []) ⟨hx, hb, hml, hown, hts⟩ (c_X10_faulted l dC dI  _ qx x0 x1 x2 x3 x4 (.ref sh) x6 x7 x8 x9 x10 x11 (.int 0) 1 ) (cwV 1 hts gX10_copy_X10_faulted rfl rfl rfl (by decide +kernel) ⟨Nat.le_of_ble_eq_true rfl, Nat.le_of_ble_eq_true rfl⟩) (pw_preV (va_recv hKc hPc (ci := 10) (q0 := 0) rfl rfl) hPc hKc hDc hN) rfl rfl hl.1 rfl (lv_room (Nat.le_of_ble_eq_true rfl)) dX10_copy_49 ⟨Nat.le_of_ble_eq_true rfl, Nat.le_of_ble_eq_true rfl⟩) hS (fun q _ h => hFc q h) hFc (fun r6 u t H1 locs ht hvm hw hB hz1 hk1 hS => ?_)
        have hr6 : r6 = -10 - 1 := hw
        obtain ⟨hP1, hK1, hD1⟩ := hB
        rw [ht] at hP1
        obtain ⟨hP, hD⟩ := va_join (wr := [(saa, .inr (7, [.ref caa, .int (-1), .int 0])), (sh, .inl (cS, 4, .inr (.inr (.inr (.inr (sh4 t0 t1 t2 t3))))))]) (w1 := [(qx, .inr (10, [x0, x1, x2, x3, x4, .ref sh, x6, x7, x8, x9, x10, x11, .int 1]))]) hP hD [0] [1, 2] rfl rfl (by decide) (by decide) hk1 hFc hP1 hD1
        generalize H1 = H at hP hS ⊢
        have hP : va_P (dC, dI) vwCl [(saa, .inr (7, [.ref caa, .int (-1), .int 0])), (sh, .inl (cS, 4, .inr (.inr (.inr (.inr (sh4 t0 t1 t2 t3)))))), (qx, .inr (10, [x0, x1, x2, x3, x4, .ref sh, x6, x7, x8, x9, x10, x11, .int 1]))] H := hP
        have hD : va_D _ [(saa, .inr (7, [.ref caa, .int (-1), .int 0])), (sh, .inl (cS, 4, .inr (.inr (.inr (.inr (sh4 t0 t1 t2 t3)))))), (qx, .inr (10, [x0, x1, x2, x3, x4, .ref sh, x6, x7, x8, x9, x10, x11, .int 1]))] := hD
        exact W.iret (v := r6) hx hb hr (fun t ht hW => ⟨⟨r6, (), rfl, (by rw [hr6]; simp [sp_copy, hka, hkb, c5]), trivial⟩, hS.F ht⟩) hS.2.2 dX10_copy_52
      · exact absurd c5 (by decide)
set_option maxHeartbeats 4000000 in
set_option maxRecDepth 100000 in
theorem c_X10_chart (l : Launch) (dC : Nat → ClassId) (dI : Nat → Nat → Nat) (cS : ClassId) (sz : Nat) (qx : Nat) (x0 : Value) (x1 : Value) (x2 : Value) (x3 : Value) (x4 : Value) (x6 : Value) (x7 : Value) (x8 : Value) (x9 : Value) (x10 : Value) (x11 : Value) (x12 : Value) (sh : Nat) (t0 : Nat) (t1 : Nat) (t2 : Nat) (t3 : Nat) (d0 : Nat) (d1 : Nat) (d2 : Nat) (d3 : Nat) (k : Int32) (ln : Int32) (i : Int32) (n : Int32) (sv : Int32)  : Met l yX10_chart wsX10_chart ({ frames := 4, cells := 0, slots := 0, locals := 130 }) (pw (dC, dI) [(cS, .object RX7)] [(qx, .inr (10, [x0, x1, x2, x3, x4, .ref sh, x6, x7, x8, x9, x10, x11, x12])), (t0, .inr (7, [.ref d0, .int (-1), .int 0])), (t1, .inr (7, [.ref d1, .int (-1), .int 0])), (t2, .inr (7, [.ref d2, .int (-1), .int 0])), (t3, .inr (7, [.ref d3, .int (-1), .int 0])), (sh, .inl (cS, 4, .inr (.inr (.inr (.inr (sh4 t0 t1 t2 t3))))))] sz [.ref qx, .int k, .int ln, .int i, .int n, .int sv]) (va_Qi (fun r (_ : Unit) => r = sp_chart k ln sv) (fun _ _ => True) (va_A [(qx, .inr (10, [x0, x1, x2, x3, x4, .ref sh, x6, x7, x8, x9, x10, x11, x12])), (t0, .inr (7, [.ref d0, .int (-1), .int 0])), (t1, .inr (7, [.ref d1, .int (-1), .int 0])), (t2, .inr (7, [.ref d2, .int (-1), .int 0])), (t3, .inr (7, [.ref d3, .int (-1), .int 0])), (sh, .inl (cS, 4, .inr (.inr (.inr (.inr (sh4 t0 t1 t2 t3))))))] sz)) 0 0 (va_A [(qx, .inr (10, [x0, x1, x2, x3, x4, .ref sh, x6, x7, x8, x9, x10, x11, x12])), (t0, .inr (7, [.ref d0, .int (-1), .int 0])), (t1, .inr (7, [.ref d1, .int (-1), .int 0])), (t2, .inr (7, [.ref d2, .int (-1), .int 0])), (t3, .inr (7, [.ref d3, .int (-1), .int 0])), (sh, .inl (cS, 4, .inr (.inr (.inr (.inr (sh4 t0 t1 t2 t3))))))] sz) := by
  refine pw_met (cc := cX10_chart) (maxL := 10) (ret := (some .int)) (by decide) rfl (Nat.le_of_ble_eq_true rfl) ?_
  intro p e s m below meth c0 hx hb hr hml hown hlocks hnm hts hP hK hD hN hsz hA hS ls hl
  subst hsz
  have hl : lv_has ls 10 [(0, .ref qx), (1, .int k), (2, .int ln), (3, .int i), (4, .int n), (5, .int sv)] := hl
  have hiX10 : ∀ w ∈ wsX100, w ∈ wsX10_chart := by decide +kernel
  refine lv_aload_n hx hb dX10_chart_0 rfl (lv_at hl 0 rfl) ?_
  refine lv_iconst (v := 0) hx hb dX10_chart_1 (by decide) ?_
  refine va_put (D := (dC, dI)) (ci := 10) (v := .int 0) (ty := .int) (C := RX10) (T := TX10) (N := 13) hx hb hts hiX10 tyX10 tyX10_ok nmX10 hown hK hP hD hS 0 rfl rfl 12 (by decide) (hts (.fieldLink RX10 56 "TributePitches" "latestFault" "I") (by decide +kernel)) (fun _ h9 => h9) rfl (by decide +kernel) rfl rfl (Nat.le_of_ble_eq_true rfl) dX10_chart_2 (fun H locs hP hD hS => ?_)
  have hP : va_P (dC, dI) vwCl [(qx, .inr (10, [x0, x1, x2, x3, x4, .ref sh, x6, x7, x8, x9, x10, x11, .int 0])), (t0, .inr (7, [.ref d0, .int (-1), .int 0])), (t1, .inr (7, [.ref d1, .int (-1), .int 0])), (t2, .inr (7, [.ref d2, .int (-1), .int 0])), (t3, .inr (7, [.ref d3, .int (-1), .int 0])), (sh, .inl (cS, 4, .inr (.inr (.inr (.inr (sh4 t0 t1 t2 t3))))))] H := hP
  have hD : va_D _ [(qx, .inr (10, [x0, x1, x2, x3, x4, .ref sh, x6, x7, x8, x9, x10, x11, .int 0])), (t0, .inr (7, [.ref d0, .int (-1), .int 0])), (t1, .inr (7, [.ref d1, .int (-1), .int 0])), (t2, .inr (7, [.ref d2, .int (-1), .int 0])), (t3, .inr (7, [.ref d3, .int (-1), .int 0])), (sh, .inl (cS, 4, .inr (.inr (.inr (.inr (sh4 t0 t1 t2 t3))))))] := hD
  refine lv_aload_n hx hb dX10_chart_5 rfl (lv_at hl 0 rfl) ?_
  refine lv_iload_n hx hb dX10_chart_6 rfl (lv_at hl 1 rfl) ?_
  have hPc := hP.sub (ws' := [(qx, .inr (10, [x0, x1, x2, x3, x4, .ref sh, x6, x7, x8, x9, x10, x11, .int 0])), (sh, .inl (cS, 4, .inr (.inr (.inr (.inr (sh4 t0 t1 t2 t3))))))]) [0, 5] rfl
  have hDc := hD.sub (ws' := [(qx, .inr (10, [x0, x1, x2, x3, x4, .ref sh, x6, x7, x8, x9, x10, x11, .int 0])), (sh, .inl (cS, 4, .inr (.inr (.inr (.inr (sh4 t0 t1 t2 t3))))))]) [0, 5] (by decide) rfl
  have hKc := hK.sub (tys' := [(cS, .object RX7)]) [0] rfl
  refine va_csq (va_Run.run (va_runV (As := [.int k]) (rest := []) ⟨hx, hb, hml, hown, hts⟩ (c_X10_sheetAt l dC dI cS _ qx x0 x1 x2 x3 x4 x6 x7 x8 x9 x10 x11 (.int 0) sh (sh4 t0 t1 t2 t3) k ) (cwV 1 hts gX10_chart_X10_sheetAt rfl rfl rfl (by decide +kernel) ⟨Nat.le_of_ble_eq_true rfl, Nat.le_of_ble_eq_true rfl⟩) (pw_preV (va_recv hKc hPc (ci := 10) (q0 := 0) rfl rfl) hPc hKc hDc hN) rfl rfl hl.1 rfl (lv_room (Nat.le_of_ble_eq_true rfl)) dX10_chart_7 ⟨Nat.le_of_ble_eq_true rfl, Nat.le_of_ble_eq_true rfl⟩)) (fun r1 hr1 => ?_)
  have hr1 : (¬ (0 ≤ k ∧ k ≤ 3) ∧ r1 = none) ∨ ((0 ≤ k ∧ k ≤ 3) ∧ r1 = (sh4 t0 t1 t2 t3) k.toNatClampNeg) := hr1
  rcases hr1 with ⟨hka, er1⟩ | ⟨hka, er1⟩
  · subst er1
    refine W.eq (g2 := F0 m 10 ls [.null]) rfl ?_
    refine lv_astoreN (lv' := [(6, .null), (0, .ref qx), (1, .int k), (2, .int ln), (3, .int i), (4, .int n), (5, .int sv)]) hx hb dX10_chart_10 hl (by decide) rfl (fun ls hl => ?_)
    refine lv_aloadN hx hb dX10_chart_12 (lv_at hl 0 rfl) ?_
    refine lv_ifnullN (tgt := 28) hx hb dX10_chart_14 (by decide) ?_
    refine lv_iconst (v := (-1)) hx hb dX10_chart_28 (by decide) ?_
    exact W.iret (v := (-1)) hx hb hr (fun t ht hW => ⟨⟨(-1), (), rfl, (by simp [sp_chart, hka]), trivial⟩, hS.F ht⟩) hS.2.2 dX10_chart_29
  · obtain ⟨saa, eaa, haa⟩ := sh4_some t0 t1 t2 t3 hka
    rw [eaa] at er1
    subst er1
    refine W.eq (g2 := F0 m 10 ls [.ref saa]) rfl ?_
    obtain ⟨caa, hP, hD⟩ : ∃ caa : Nat, va_P (dC, dI) vwCl [(qx, .inr (10, [x0, x1, x2, x3, x4, .ref sh, x6, x7, x8, x9, x10, x11, .int 0])), (saa, .inr (7, [.ref caa, .int (-1), .int 0])), (sh, .inl (cS, 4, .inr (.inr (.inr (.inr (sh4 t0 t1 t2 t3))))))] H ∧ va_D (va_A [(qx, .inr (10, [x0, x1, x2, x3, x4, .ref sh, x6, x7, x8, x9, x10, x11, x12])), (t0, .inr (7, [.ref d0, .int (-1), .int 0])), (t1, .inr (7, [.ref d1, .int (-1), .int 0])), (t2, .inr (7, [.ref d2, .int (-1), .int 0])), (t3, .inr (7, [.ref d3, .int (-1), .int 0])), (sh, .inl (cS, 4, .inr (.inr (.inr (.inr (sh4 t0 t1 t2 t3))))))] s.heap.size) [(qx, .inr (10, [x0, x1, x2, x3, x4, .ref sh, x6, x7, x8, x9, x10, x11, .int 0])), (saa, .inr (7, [.ref caa, .int (-1), .int 0])), (sh, .inl (cS, 4, .inr (.inr (.inr (.inr (sh4 t0 t1 t2 t3))))))] := by
      rcases haa with rfl | rfl | rfl | rfl
      · exact ⟨_, hP.sub [0, 1, 5] rfl, hD.sub [0, 1, 5] (by decide) rfl⟩
      · exact ⟨_, hP.sub [0, 2, 5] rfl, hD.sub [0, 2, 5] (by decide) rfl⟩
      · exact ⟨_, hP.sub [0, 3, 5] rfl, hD.sub [0, 3, 5] (by decide) rfl⟩
      · exact ⟨_, hP.sub [0, 4, 5] rfl, hD.sub [0, 4, 5] (by decide) rfl⟩
    refine lv_astore (lv' := [(6, .ref saa), (0, .ref qx), (1, .int k), (2, .int ln), (3, .int i), (4, .int n), (5, .int sv)]) hx hb dX10_chart_10 hl (by decide) rfl (fun ls hl => ?_)
    refine lv_aload hx hb dX10_chart_12 (lv_at hl 0 rfl) ?_
    refine lv_ifnull hx hb dX10_chart_14 ?_
    refine lv_iload hx hb dX10_chart_17 (lv_at hl 6 rfl) ?_
    refine lv_iconst (v := 0) hx hb dX10_chart_19 (by decide) ?_
    refine lv_bipush (v := 47) hx hb dX10_chart_20 (by decide) ?_
    refine vp_callSi (va_Run.run (va_runS (As := [.int sv, .int 0, .int 47]) (rest := []) ⟨hx, hb, hml, hown, hts⟩ (c_X10_isWithin l sv 0 47 ) (va_cwS 3 hts gX10_chart_X10_isWithin rfl rfl rfl (by decide +kernel) ⟨Nat.le_of_ble_eq_true rfl, Nat.le_of_ble_eq_true rfl⟩) (p0_preS hN) rfl rfl hl.1 rfl (lv_room (Nat.le_of_ble_eq_true rfl)) dX10_chart_22 ⟨Nat.le_of_ble_eq_true rfl, Nat.le_of_ble_eq_true rfl⟩)) (fun r2 hr2 => ?_)
    have hr2 : r2 = if 0 ≤ sv ∧ sv ≤ 47 then 1 else 0 := hr2
    refine lv_if_ne (tgt := 30) hx hb dX10_chart_25 (by decide) (fun c3 => ?_) (fun c3 => ?_)
    · skip
      have c3 := (fa_bool_prop hr2).2.mp c3
      refine lv_iload_n hx hb dX10_chart_30 rfl (lv_at hl 3 rfl) ?_
      refine vp_callSi (va_Run.run (va_runS (As := [.int ln]) (rest := []) ⟨hx, hb, hml, hown, hts⟩ (c_X7_isLane l ln ) (va_cwS 1 hts gX10_chart_X7_isLane rfl rfl rfl (by decide +kernel) ⟨Nat.le_of_ble_eq_true rfl, Nat.le_of_ble_eq_true rfl⟩) (p0_preS hN) rfl rfl hl.1 rfl (lv_room (Nat.le_of_ble_eq_true rfl)) dX10_chart_31 ⟨Nat.le_of_ble_eq_true rfl, Nat.le_of_ble_eq_true rfl⟩)) (fun r4 hr4 => ?_)
      have hr4 : r4 = if 0 ≤ ln ∧ ln ≤ 2 then 1 else 0 := hr4
      refine lv_if_ne (tgt := 40) hx hb dX10_chart_34 (by decide) (fun c5 => ?_) (fun c5 => ?_)
      · skip
        have c5 := (fa_bool_prop hr4).2.mp c5
        refine lv_aload hx hb dX10_chart_40 (lv_at hl 0 rfl) ?_
        refine lv_iload_n hx hb dX10_chart_42 rfl (lv_at hl 3 rfl) ?_
        refine lv_iload_n hx hb dX10_chart_43 rfl (lv_at hl 4 rfl) ?_
        refine lv_iload hx hb dX10_chart_44 (lv_at hl 5 rfl) ?_
        refine lv_iload hx hb dX10_chart_46 (lv_at hl 6 rfl) ?_
        have hPc := hP.sub (ws' := [(saa, .inr (7, [.ref caa, .int (-1), .int 0]))]) [1] rfl
        have hDc := hD.sub (ws' := [(saa, .inr (7, [.ref caa, .int (-1), .int 0]))]) [1] (by decide) rfl
        have hKc := hK.sub (tys' := []) [] rfl
        refine vp_callSi (va_Run.run (va_runS (As := [.ref saa, .int ln, .int i, .int n, .int sv]) (rest := []) ⟨hx, hb, hml, hown, hts⟩ (c_X10_chartFault l dC dI  _ saa (.ref caa) (.int 0) ln i n sv ) (va_cwS 5 hts gX10_chart_X10_chartFault rfl rfl rfl (by decide +kernel) ⟨Nat.le_of_ble_eq_true rfl, Nat.le_of_ble_eq_true rfl⟩) (pw_preS hPc hKc hDc hN) rfl rfl hl.1 rfl (lv_room (Nat.le_of_ble_eq_true rfl)) dX10_chart_48 ⟨Nat.le_of_ble_eq_true rfl, Nat.le_of_ble_eq_true rfl⟩)) (fun r6 hr6 => ?_)
        have hr6 : r6 = 1 := hr6
        subst hr6
        refine lv_istore (lv' := [(7, .int 1), (6, .ref saa), (0, .ref qx), (1, .int k), (2, .int ln), (3, .int i), (4, .int n), (5, .int sv)]) hx hb dX10_chart_51 hl (by decide) rfl (fun ls hl => ?_)
        refine lv_iload hx hb dX10_chart_53 (lv_at hl 0 rfl) ?_
        refine lv_if_eq (tgt := 65) hx hb dX10_chart_55 (by decide) (fun c7 => ?_) (fun c7 => ?_)
        · exact absurd c7 (by decide)
        · skip
          refine lv_aload_n hx hb dX10_chart_58 rfl (lv_at hl 2 rfl) ?_
          refine lv_iload hx hb dX10_chart_59 (lv_at hl 0 rfl) ?_
          have hPc := hP.sub (ws' := [(qx, .inr (10, [x0, x1, x2, x3, x4, .ref sh, x6, x7, x8, x9, x10, x11, .int 0]))]) [0] rfl
          have hDc := hD.sub (ws' := [(qx, .inr (10, [x0, x1, x2, x3, x4, .ref sh, x6, x7, x8, x9, x10, x11, .int 0]))]) [0] (by decide) rfl
          have hKc := hK.sub (tys' := []) [] rfl
          have hFc := va_free (wc := [(qx, .inr (10, [x0, x1, x2, x3, x4, .ref sh, x6, x7, x8, x9, x10, x11, .int 0]))]) hD hS hA [0] rfl
          refine va_calli (va_runV (As := [.int 1]) (rest := []) ⟨hx, hb, hml, hown, hts⟩ (c_X10_faulted l dC dI  _ qx x0 x1 x2 x3 x4 (.ref sh) x6 x7 x8 x9 x10 x11 (.int 0) 1 ) (cwV 1 hts gX10_chart_X10_faulted rfl rfl rfl (by decide +kernel) ⟨Nat.le_of_ble_eq_true rfl, Nat.le_of_ble_eq_true rfl⟩) (pw_preV (va_recv hKc hPc (ci := 10) (q0 := 0) rfl rfl) hPc hKc hDc hN) rfl rfl hl.1 rfl (lv_room (Nat.le_of_ble_eq_true rfl)) dX10_chart_61 ⟨Nat.le_of_ble_eq_true rfl, Nat.le_of_ble_eq_true rfl⟩) hS (fun q _ h => hFc q h) hFc (fun r8 u t H1 locs ht hvm hw hB hz1 hk1 hS => ?_)
          have hr8 : r8 = -10 - 1 := hw
          obtain ⟨hP1, hK1, hD1⟩ := hB
          rw [ht] at hP1
          obtain ⟨hP, hD⟩ := va_join (wr := [(saa, .inr (7, [.ref caa, .int (-1), .int 0])), (sh, .inl (cS, 4, .inr (.inr (.inr (.inr (sh4 t0 t1 t2 t3))))))]) (w1 := [(qx, .inr (10, [x0, x1, x2, x3, x4, .ref sh, x6, x7, x8, x9, x10, x11, .int 1]))]) hP hD [0] [1, 2] rfl rfl (by decide) (by decide) hk1 hFc hP1 hD1
          generalize H1 = H at hP hS ⊢
          have hP : va_P (dC, dI) vwCl [(saa, .inr (7, [.ref caa, .int (-1), .int 0])), (sh, .inl (cS, 4, .inr (.inr (.inr (.inr (sh4 t0 t1 t2 t3)))))), (qx, .inr (10, [x0, x1, x2, x3, x4, .ref sh, x6, x7, x8, x9, x10, x11, .int 1]))] H := hP
          have hD : va_D _ [(saa, .inr (7, [.ref caa, .int (-1), .int 0])), (sh, .inl (cS, 4, .inr (.inr (.inr (.inr (sh4 t0 t1 t2 t3)))))), (qx, .inr (10, [x0, x1, x2, x3, x4, .ref sh, x6, x7, x8, x9, x10, x11, .int 1]))] := hD
          exact W.iret (v := r8) hx hb hr (fun t ht hW => ⟨⟨r8, (), rfl, (by rw [hr8]; simp [sp_chart, hka, c3, c5, c7]), trivial⟩, hS.F ht⟩) hS.2.2 dX10_chart_64
      · skip
        have c5 := (fa_bool_prop hr4).1.mp c5
        refine lv_bipush (v := (-2)) hx hb dX10_chart_37 (by decide) ?_
        exact W.iret (v := (-2)) hx hb hr (fun t ht hW => ⟨⟨(-2), (), rfl, (by simp [sp_chart, hka, c3, c5]), trivial⟩, hS.F ht⟩) hS.2.2 dX10_chart_39
    · skip
      have c3 := (fa_bool_prop hr2).1.mp c3
      refine lv_iconst (v := (-1)) hx hb dX10_chart_28 (by decide) ?_
      exact W.iret (v := (-1)) hx hb hr (fun t ht hW => ⟨⟨(-1), (), rfl, (by simp [sp_chart, hka, c3]), trivial⟩, hS.F ht⟩) hS.2.2 dX10_chart_29
