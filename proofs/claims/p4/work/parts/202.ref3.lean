def wsum (f a b : Nat → Int32) (g : Int32) : Nat → Int64
  | 0 => 0
  | k + 1 => wsum f a b g k + (if f k = g then (a k).toInt64 * (b k).toInt64 else 0)
set_option maxHeartbeats 4000000 in
set_option maxRecDepth 100000 in
theorem r_X11_takesBy (l : Launch) (dC : Nat → ClassId) (dI : Nat → Nat → Nat) (cI : ClassId) (sz : Nat) (qm : Nat) (w0 : Value) (w1 : Value) (w2 : Value) (w3 : Value) (w4 : Value) (w5 : Value) (w6 : Value) (w7 : Value) (w8 : Value) (w9 : Value) (w10 : Value) (w11 : Value) (w12 : Value) (w13 : Value) (w14 : Value) (w15 : Value) (w16 : Value) (w17 : Value) (w18 : Value) (w19 : Value) (w20 : Value) (w21 : Value) (w22 : Value) (w23 : Value) (w26 : Value) (w27 : Value) (w28 : Value) (w29 : Value) (w30 : Value) (w31 : Value) (w32 : Value) (w33 : Value) (w34 : Value) (w35 : Value) (w36 : Value) (w37 : Value) (w38 : Value) (ra : Nat) (cn : Int32) (g : Int32) (n : Nat) (f : Nat → Int32) (hc : cn = nI n) (hn : n ≤ 40) : Met l yX11_takesBy wsX11_takesBy ({ frames := 0, cells := 0, slots := 0, locals := 0 }) (pw (dC, dI) [(cI, .int)] [(qm, .inr (11, [w0, w1, w2, w3, w4, w5, w6, w7, w8, w9, w10, w11, w12, w13, w14, w15, w16, w17, w18, w19, w20, w21, w22, w23, .int cn, .ref ra, w26, w27, w28, w29, w30, w31, w32, w33, w34, w35, w36, w37, w38])), (ra, .inl (cI, 40, .inl f))] sz [.ref qm, .int g]) (vp_Si (fun r => r = nI (fa_cnt (fun t => decide (f t = g)) n))) 0 0 (fun _ => False) := by
  refine pw_met (cc := cX11_takesBy) (maxL := 4) (ret := (some .int)) (by decide) rfl (Nat.le_of_ble_eq_true rfl) ?_
  intro p e s m below meth c0 hx hb hr hml hown hlocks hnm hts hP hK hD hN hsz hA hS ls hl
  have hl : lv_has ls 4 [(0, .ref qm), (1, .int g)] := hl
  have hiX11 : ∀ w ∈ wsX110, w ∈ wsX11_takesBy := by decide +kernel
  obtain ⟨Q, hQ⟩ : ∃ Q : State → Prop, Q = MQ below (vp_Si (fun r => r = nI (fa_cnt (fun t => decide (f t = g)) n))) ([.ref qm, .int g] : List Value).toArray s 0 0 (fun _ => False) := ⟨_, rfl⟩
  rw [← hQ]
  refine lv_iconst (v := 0) hx hb dX11_takesBy_0 (by decide) ?_
  refine lv_istore_n (lv' := [(2, .int 0), (0, .ref qm), (1, .int g)]) hx hb dX11_takesBy_1 rfl hl (by decide) rfl (fun ls hl => ?_)
  refine lv_iconst (v := 0) hx hb dX11_takesBy_2 (by decide) ?_
  refine lv_istore_n (lv' := [(3, .int 0), (2, .int 0), (0, .ref qm), (1, .int g)]) hx hb dX11_takesBy_3 rfl hl (by decide) rfl (fun ls hl => ?_)
  have loop4 : ∀ (ni4 i4 : Nat) (ls : Array Slot), i4 ≤ n → n + 1 ≤ i4 + ni4 → lv_has ls 4 [(3, .int (nI i4)), (2, .int (nI (fa_cnt (fun t => decide (f t = g)) i4))), (0, .ref qm), (1, .int g)] → W p l e ({ frames := 0, cells := 0, slots := 0, locals := 0 } : Room) s m ([.ref qm, .int g] : List Value).toArray below meth c0 s.heap [] 0 0 Q (F0 m 4 ls []) := by
    intro ni4
    induction ni4 with
    | zero =>
      intro i4  ls h1 h2
      exact absurd h2 (by omega)
    | succ ni4 ihi4 =>
      intro i4  ls hlei4 hni4  hl
      refine lv_iload_n hx hb dX11_takesBy_4 rfl (lv_at hl 0 rfl) ?_
      refine lv_aload_n hx hb dX11_takesBy_5 rfl (lv_at hl 2 rfl) ?_
      refine va_get (D := (dC, dI)) (ci := 11) (v := .int cn) (C := RX11) (T := TX11) (N := 39) hx hb hts hiX11 hown hK hP 0 rfl rfl 24 (by decide) (hts (.fieldLink RX11 188 "TributePitchesModel" "takes" "I") (by decide +kernel)) (fun _ h9 => h9) rfl dX11_takesBy_6 ?_
      refine lv_icmp_ge (tgt := 36) hx hb dX11_takesBy_9 (by decide) (fun c1 => ?_) (fun c1 => ?_)
      · skip
        have hei4 : i4 = n := (Nat.lt_or_ge i4 n).elim (fun q => absurd c1 (by rw [hc]; exact nI_ge q (by omega))) (fun q => by omega)
        refine lv_iload_n hx hb dX11_takesBy_36 rfl (lv_at hl 1 rfl) ?_
        rw [hQ]
        exact W.iret (v := nI (fa_cnt (fun t => decide (f t = g)) i4)) hx hb hr (fun t ht hW => ⟨nI (fa_cnt (fun t => decide (f t = g)) i4), rfl, (by rw [hei4]), ht⟩) (fun q h => absurd h List.not_mem_nil) dX11_takesBy_37
      · skip
        have hlti4 : i4 < n := (Nat.lt_or_ge i4 n).elim id (fun q => absurd (by rw [hc]; exact nI_le q (by omega)) c1)
        refine lv_iload_n hx hb dX11_takesBy_12 rfl (lv_at hl 1 rfl) ?_
        refine lv_aload_n hx hb dX11_takesBy_13 rfl (lv_at hl 2 rfl) ?_
        refine va_get (D := (dC, dI)) (ci := 11) (v := .ref ra) (C := RX11) (T := TX11) (N := 39) hx hb hts hiX11 hown hK hP 0 rfl rfl 25 (by decide) (hts (.fieldLink RX11 56 "TributePitchesModel" "gangOf" "[I") (by decide +kernel)) (fun _ h9 => h9) rfl dX11_takesBy_14 ?_
        refine lv_iload_n hx hb dX11_takesBy_17 rfl (lv_at hl 0 rfl) ?_
        refine va_iald hx hb hK hP 1 0 rfl rfl (vp_in_nI (by omega) (by omega)) dX11_takesBy_18 ?_
        refine lv_topi (fun v2 ev2 => ?_)
        have ev2 : v2 = f i4 := by rw [ev2]; rw [nI_clamp (by omega)]
        subst ev2
        refine lv_iload_n hx hb dX11_takesBy_19 rfl (lv_at hl 3 rfl) ?_
        refine lv_icmp_ne (tgt := 27) hx hb dX11_takesBy_20 (by decide) (fun c3 => ?_) (fun c3 => ?_)
        · skip
          refine lv_iconst (v := 0) hx hb dX11_takesBy_27 (by decide) ?_
          refine lv_iadd hx hb dX11_takesBy_28 ?_
          refine lv_topi (fun vs evs => ?_)
          have evs : vs = nI (fa_cnt (fun t => decide (f t = g)) (i4 + 1)) := by rw [evs]; rw [fa_cnt_no (by simp [c3])]; simp
          subst evs
          refine lv_istore_n (lv' := [(2, .int (nI (fa_cnt (fun t => decide (f t = g)) (i4 + 1)))), (3, .int (nI i4)), (0, .ref qm), (1, .int g)]) hx hb dX11_takesBy_29 rfl hl (by decide) rfl (fun ls hl => ?_)
          refine lv_iinc (v := nI (i4 + 1)) (lv' := [(3, .int (nI (i4 + 1))), (2, .int (nI (fa_cnt (fun t => decide (f t = g)) (i4 + 1)))), (0, .ref qm), (1, .int g)]) hx hb dX11_takesBy_30 hl (k := 1) rfl (nI_1 i4) (by decide) rfl (fun ls hl => ?_)
          refine lv_goto (tgt := 4) hx hb dX11_takesBy_33 (by decide) ?_
          exact ihi4 (i4 + 1)  ls (by omega) (by omega)  (lv_sub hl [0, 1, 2, 3] rfl)
        · skip
          refine lv_iconst (v := 1) hx hb dX11_takesBy_23 (by decide) ?_
          refine lv_goto (tgt := 28) hx hb dX11_takesBy_24 (by decide) ?_
          refine lv_iadd hx hb dX11_takesBy_28 ?_
          refine lv_topi (fun vs evs => ?_)
          have evs : vs = nI (fa_cnt (fun t => decide (f t = g)) (i4 + 1)) := by rw [evs]; rw [fa_cnt_yes (by simp [c3])]; exact nI_1 _
          subst evs
          refine lv_istore_n (lv' := [(2, .int (nI (fa_cnt (fun t => decide (f t = g)) (i4 + 1)))), (3, .int (nI i4)), (0, .ref qm), (1, .int g)]) hx hb dX11_takesBy_29 rfl hl (by decide) rfl (fun ls hl => ?_)
          refine lv_iinc (v := nI (i4 + 1)) (lv' := [(3, .int (nI (i4 + 1))), (2, .int (nI (fa_cnt (fun t => decide (f t = g)) (i4 + 1)))), (0, .ref qm), (1, .int g)]) hx hb dX11_takesBy_30 hl (k := 1) rfl (nI_1 i4) (by decide) rfl (fun ls hl => ?_)
          refine lv_goto (tgt := 4) hx hb dX11_takesBy_33 (by decide) ?_
          exact ihi4 (i4 + 1)  ls (by omega) (by omega)  (lv_sub hl [0, 1, 2, 3] rfl)
  exact loop4 (n + 1 - 0) 0  ls (by omega) (by omega)  (lv_sub hl [0, 1, 2, 3] rfl)
set_option maxHeartbeats 4000000 in
set_option maxRecDepth 100000 in
theorem r_X11_takesOn (l : Launch) (dC : Nat → ClassId) (dI : Nat → Nat → Nat) (cI : ClassId) (sz : Nat) (qm : Nat) (w0 : Value) (w1 : Value) (w2 : Value) (w3 : Value) (w4 : Value) (w5 : Value) (w6 : Value) (w7 : Value) (w8 : Value) (w9 : Value) (w10 : Value) (w11 : Value) (w12 : Value) (w13 : Value) (w14 : Value) (w15 : Value) (w16 : Value) (w17 : Value) (w18 : Value) (w19 : Value) (w20 : Value) (w21 : Value) (w22 : Value) (w23 : Value) (w25 : Value) (w27 : Value) (w28 : Value) (w29 : Value) (w30 : Value) (w31 : Value) (w32 : Value) (w33 : Value) (w34 : Value) (w35 : Value) (w36 : Value) (w37 : Value) (w38 : Value) (ra : Nat) (cn : Int32) (g : Int32) (n : Nat) (f : Nat → Int32) (hc : cn = nI n) (hn : n ≤ 40) : Met l yX11_takesOn wsX11_takesOn ({ frames := 0, cells := 0, slots := 0, locals := 0 }) (pw (dC, dI) [(cI, .int)] [(qm, .inr (11, [w0, w1, w2, w3, w4, w5, w6, w7, w8, w9, w10, w11, w12, w13, w14, w15, w16, w17, w18, w19, w20, w21, w22, w23, .int cn, w25, .ref ra, w27, w28, w29, w30, w31, w32, w33, w34, w35, w36, w37, w38])), (ra, .inl (cI, 40, .inl f))] sz [.ref qm, .int g]) (vp_Si (fun r => r = nI (fa_cnt (fun t => decide (f t = g)) n))) 0 0 (fun _ => False) := by
  refine pw_met (cc := cX11_takesOn) (maxL := 4) (ret := (some .int)) (by decide) rfl (Nat.le_of_ble_eq_true rfl) ?_
  intro p e s m below meth c0 hx hb hr hml hown hlocks hnm hts hP hK hD hN hsz hA hS ls hl
  have hl : lv_has ls 4 [(0, .ref qm), (1, .int g)] := hl
  have hiX11 : ∀ w ∈ wsX110, w ∈ wsX11_takesOn := by decide +kernel
  obtain ⟨Q, hQ⟩ : ∃ Q : State → Prop, Q = MQ below (vp_Si (fun r => r = nI (fa_cnt (fun t => decide (f t = g)) n))) ([.ref qm, .int g] : List Value).toArray s 0 0 (fun _ => False) := ⟨_, rfl⟩
  rw [← hQ]
  refine lv_iconst (v := 0) hx hb dX11_takesOn_0 (by decide) ?_
  refine lv_istore_n (lv' := [(2, .int 0), (0, .ref qm), (1, .int g)]) hx hb dX11_takesOn_1 rfl hl (by decide) rfl (fun ls hl => ?_)
  refine lv_iconst (v := 0) hx hb dX11_takesOn_2 (by decide) ?_
  refine lv_istore_n (lv' := [(3, .int 0), (2, .int 0), (0, .ref qm), (1, .int g)]) hx hb dX11_takesOn_3 rfl hl (by decide) rfl (fun ls hl => ?_)
  have loop4 : ∀ (ni4 i4 : Nat) (ls : Array Slot), i4 ≤ n → n + 1 ≤ i4 + ni4 → lv_has ls 4 [(3, .int (nI i4)), (2, .int (nI (fa_cnt (fun t => decide (f t = g)) i4))), (0, .ref qm), (1, .int g)] → W p l e ({ frames := 0, cells := 0, slots := 0, locals := 0 } : Room) s m ([.ref qm, .int g] : List Value).toArray below meth c0 s.heap [] 0 0 Q (F0 m 4 ls []) := by
    intro ni4
    induction ni4 with
    | zero =>
      intro i4  ls h1 h2
      exact absurd h2 (by omega)
    | succ ni4 ihi4 =>
      intro i4  ls hlei4 hni4  hl
      refine lv_iload_n hx hb dX11_takesOn_4 rfl (lv_at hl 0 rfl) ?_
      refine lv_aload_n hx hb dX11_takesOn_5 rfl (lv_at hl 2 rfl) ?_
      refine va_get (D := (dC, dI)) (ci := 11) (v := .int cn) (C := RX11) (T := TX11) (N := 39) hx hb hts hiX11 hown hK hP 0 rfl rfl 24 (by decide) (hts (.fieldLink RX11 188 "TributePitchesModel" "takes" "I") (by decide +kernel)) (fun _ h9 => h9) rfl dX11_takesOn_6 ?_
      refine lv_icmp_ge (tgt := 36) hx hb dX11_takesOn_9 (by decide) (fun c1 => ?_) (fun c1 => ?_)
      · skip
        have hei4 : i4 = n := (Nat.lt_or_ge i4 n).elim (fun q => absurd c1 (by rw [hc]; exact nI_ge q (by omega))) (fun q => by omega)
        refine lv_iload_n hx hb dX11_takesOn_36 rfl (lv_at hl 1 rfl) ?_
        rw [hQ]
        exact W.iret (v := nI (fa_cnt (fun t => decide (f t = g)) i4)) hx hb hr (fun t ht hW => ⟨nI (fa_cnt (fun t => decide (f t = g)) i4), rfl, (by rw [hei4]), ht⟩) (fun q h => absurd h List.not_mem_nil) dX11_takesOn_37
      · skip
        have hlti4 : i4 < n := (Nat.lt_or_ge i4 n).elim id (fun q => absurd (by rw [hc]; exact nI_le q (by omega)) c1)
        refine lv_iload_n hx hb dX11_takesOn_12 rfl (lv_at hl 1 rfl) ?_
        refine lv_aload_n hx hb dX11_takesOn_13 rfl (lv_at hl 2 rfl) ?_
        refine va_get (D := (dC, dI)) (ci := 11) (v := .ref ra) (C := RX11) (T := TX11) (N := 39) hx hb hts hiX11 hown hK hP 0 rfl rfl 26 (by decide) (hts (.fieldLink RX11 59 "TributePitchesModel" "pitchOf" "[I") (by decide +kernel)) (fun _ h9 => h9) rfl dX11_takesOn_14 ?_
        refine lv_iload_n hx hb dX11_takesOn_17 rfl (lv_at hl 0 rfl) ?_
        refine va_iald hx hb hK hP 1 0 rfl rfl (vp_in_nI (by omega) (by omega)) dX11_takesOn_18 ?_
        refine lv_topi (fun v2 ev2 => ?_)
        have ev2 : v2 = f i4 := by rw [ev2]; rw [nI_clamp (by omega)]
        subst ev2
        refine lv_iload_n hx hb dX11_takesOn_19 rfl (lv_at hl 3 rfl) ?_
        refine lv_icmp_ne (tgt := 27) hx hb dX11_takesOn_20 (by decide) (fun c3 => ?_) (fun c3 => ?_)
        · skip
          refine lv_iconst (v := 0) hx hb dX11_takesOn_27 (by decide) ?_
          refine lv_iadd hx hb dX11_takesOn_28 ?_
          refine lv_topi (fun vs evs => ?_)
          have evs : vs = nI (fa_cnt (fun t => decide (f t = g)) (i4 + 1)) := by rw [evs]; rw [fa_cnt_no (by simp [c3])]; simp
          subst evs
          refine lv_istore_n (lv' := [(2, .int (nI (fa_cnt (fun t => decide (f t = g)) (i4 + 1)))), (3, .int (nI i4)), (0, .ref qm), (1, .int g)]) hx hb dX11_takesOn_29 rfl hl (by decide) rfl (fun ls hl => ?_)
          refine lv_iinc (v := nI (i4 + 1)) (lv' := [(3, .int (nI (i4 + 1))), (2, .int (nI (fa_cnt (fun t => decide (f t = g)) (i4 + 1)))), (0, .ref qm), (1, .int g)]) hx hb dX11_takesOn_30 hl (k := 1) rfl (nI_1 i4) (by decide) rfl (fun ls hl => ?_)
          refine lv_goto (tgt := 4) hx hb dX11_takesOn_33 (by decide) ?_
          exact ihi4 (i4 + 1)  ls (by omega) (by omega)  (lv_sub hl [0, 1, 2, 3] rfl)
        · skip
          refine lv_iconst (v := 1) hx hb dX11_takesOn_23 (by decide) ?_
          refine lv_goto (tgt := 28) hx hb dX11_takesOn_24 (by decide) ?_
          refine lv_iadd hx hb dX11_takesOn_28 ?_
          refine lv_topi (fun vs evs => ?_)
          have evs : vs = nI (fa_cnt (fun t => decide (f t = g)) (i4 + 1)) := by rw [evs]; rw [fa_cnt_yes (by simp [c3])]; exact nI_1 _
          subst evs
          refine lv_istore_n (lv' := [(2, .int (nI (fa_cnt (fun t => decide (f t = g)) (i4 + 1)))), (3, .int (nI i4)), (0, .ref qm), (1, .int g)]) hx hb dX11_takesOn_29 rfl hl (by decide) rfl (fun ls hl => ?_)
          refine lv_iinc (v := nI (i4 + 1)) (lv' := [(3, .int (nI (i4 + 1))), (2, .int (nI (fa_cnt (fun t => decide (f t = g)) (i4 + 1)))), (0, .ref qm), (1, .int g)]) hx hb dX11_takesOn_30 hl (k := 1) rfl (nI_1 i4) (by decide) rfl (fun ls hl => ?_)
          refine lv_goto (tgt := 4) hx hb dX11_takesOn_33 (by decide) ?_
          exact ihi4 (i4 + 1)  ls (by omega) (by omega)  (lv_sub hl [0, 1, 2, 3] rfl)
  exact loop4 (n + 1 - 0) 0  ls (by omega) (by omega)  (lv_sub hl [0, 1, 2, 3] rfl)
set_option maxHeartbeats 4000000 in
set_option maxRecDepth 100000 in
theorem r_X11_parcelsOf (l : Launch) (dC : Nat → ClassId) (dI : Nat → Nat → Nat) (cI : ClassId) (sz : Nat) (qm : Nat) (w0 : Value) (w1 : Value) (w2 : Value) (w3 : Value) (w4 : Value) (w5 : Value) (w6 : Value) (w7 : Value) (w8 : Value) (w9 : Value) (w10 : Value) (w11 : Value) (w12 : Value) (w13 : Value) (w14 : Value) (w15 : Value) (w16 : Value) (w17 : Value) (w18 : Value) (w19 : Value) (w20 : Value) (w21 : Value) (w22 : Value) (w23 : Value) (w24 : Value) (w25 : Value) (w26 : Value) (w27 : Value) (w28 : Value) (w29 : Value) (w30 : Value) (w31 : Value) (w32 : Value) (w33 : Value) (w36 : Value) (w37 : Value) (w38 : Value) (ra : Nat) (cn : Int32) (g : Int32) (n : Nat) (f : Nat → Int32) (hc : cn = nI n) (hn : n ≤ 80) : Met l yX11_parcelsOf wsX11_parcelsOf ({ frames := 0, cells := 0, slots := 0, locals := 0 }) (pw (dC, dI) [(cI, .int)] [(qm, .inr (11, [w0, w1, w2, w3, w4, w5, w6, w7, w8, w9, w10, w11, w12, w13, w14, w15, w16, w17, w18, w19, w20, w21, w22, w23, w24, w25, w26, w27, w28, w29, w30, w31, w32, w33, .int cn, .ref ra, w36, w37, w38])), (ra, .inl (cI, 80, .inl f))] sz [.ref qm, .int g]) (vp_Si (fun r => r = nI (fa_cnt (fun t => decide (f t = g)) n))) 0 0 (fun _ => False) := by
  refine pw_met (cc := cX11_parcelsOf) (maxL := 4) (ret := (some .int)) (by decide) rfl (Nat.le_of_ble_eq_true rfl) ?_
  intro p e s m below meth c0 hx hb hr hml hown hlocks hnm hts hP hK hD hN hsz hA hS ls hl
  have hl : lv_has ls 4 [(0, .ref qm), (1, .int g)] := hl
  have hiX11 : ∀ w ∈ wsX110, w ∈ wsX11_parcelsOf := by decide +kernel
  obtain ⟨Q, hQ⟩ : ∃ Q : State → Prop, Q = MQ below (vp_Si (fun r => r = nI (fa_cnt (fun t => decide (f t = g)) n))) ([.ref qm, .int g] : List Value).toArray s 0 0 (fun _ => False) := ⟨_, rfl⟩
  rw [← hQ]
  refine lv_iconst (v := 0) hx hb dX11_parcelsOf_0 (by decide) ?_
  refine lv_istore_n (lv' := [(2, .int 0), (0, .ref qm), (1, .int g)]) hx hb dX11_parcelsOf_1 rfl hl (by decide) rfl (fun ls hl => ?_)
  refine lv_iconst (v := 0) hx hb dX11_parcelsOf_2 (by decide) ?_
  refine lv_istore_n (lv' := [(3, .int 0), (2, .int 0), (0, .ref qm), (1, .int g)]) hx hb dX11_parcelsOf_3 rfl hl (by decide) rfl (fun ls hl => ?_)
  have loop4 : ∀ (ni4 i4 : Nat) (ls : Array Slot), i4 ≤ n → n + 1 ≤ i4 + ni4 → lv_has ls 4 [(3, .int (nI i4)), (2, .int (nI (fa_cnt (fun t => decide (f t = g)) i4))), (0, .ref qm), (1, .int g)] → W p l e ({ frames := 0, cells := 0, slots := 0, locals := 0 } : Room) s m ([.ref qm, .int g] : List Value).toArray below meth c0 s.heap [] 0 0 Q (F0 m 4 ls []) := by
    intro ni4
    induction ni4 with
    | zero =>
      intro i4  ls h1 h2
      exact absurd h2 (by omega)
    | succ ni4 ihi4 =>
      intro i4  ls hlei4 hni4  hl
      refine lv_iload_n hx hb dX11_parcelsOf_4 rfl (lv_at hl 0 rfl) ?_
      refine lv_aload_n hx hb dX11_parcelsOf_5 rfl (lv_at hl 2 rfl) ?_
      refine va_get (D := (dC, dI)) (ci := 11) (v := .int cn) (C := RX11) (T := TX11) (N := 39) hx hb hts hiX11 hown hK hP 0 rfl rfl 34 (by decide) (hts (.fieldLink RX11 217 "TributePitchesModel" "parcels" "I") (by decide +kernel)) (fun _ h9 => h9) rfl dX11_parcelsOf_6 ?_
      refine lv_icmp_ge (tgt := 36) hx hb dX11_parcelsOf_9 (by decide) (fun c1 => ?_) (fun c1 => ?_)
      · skip
        have hei4 : i4 = n := (Nat.lt_or_ge i4 n).elim (fun q => absurd c1 (by rw [hc]; exact nI_ge q (by omega))) (fun q => by omega)
        refine lv_iload_n hx hb dX11_parcelsOf_36 rfl (lv_at hl 1 rfl) ?_
        rw [hQ]
        exact W.iret (v := nI (fa_cnt (fun t => decide (f t = g)) i4)) hx hb hr (fun t ht hW => ⟨nI (fa_cnt (fun t => decide (f t = g)) i4), rfl, (by rw [hei4]), ht⟩) (fun q h => absurd h List.not_mem_nil) dX11_parcelsOf_37
      · skip
        have hlti4 : i4 < n := (Nat.lt_or_ge i4 n).elim id (fun q => absurd (by rw [hc]; exact nI_le q (by omega)) c1)
        refine lv_iload_n hx hb dX11_parcelsOf_12 rfl (lv_at hl 1 rfl) ?_
        refine lv_aload_n hx hb dX11_parcelsOf_13 rfl (lv_at hl 2 rfl) ?_
        refine va_get (D := (dC, dI)) (ci := 11) (v := .ref ra) (C := RX11) (T := TX11) (N := 39) hx hb hts hiX11 hown hK hP 0 rfl rfl 35 (by decide) (hts (.fieldLink RX11 84 "TributePitchesModel" "parcelTake" "[I") (by decide +kernel)) (fun _ h9 => h9) rfl dX11_parcelsOf_14 ?_
        refine lv_iload_n hx hb dX11_parcelsOf_17 rfl (lv_at hl 0 rfl) ?_
        refine va_iald hx hb hK hP 1 0 rfl rfl (vp_in_nI (by omega) (by omega)) dX11_parcelsOf_18 ?_
        refine lv_topi (fun v2 ev2 => ?_)
        have ev2 : v2 = f i4 := by rw [ev2]; rw [nI_clamp (by omega)]
        subst ev2
        refine lv_iload_n hx hb dX11_parcelsOf_19 rfl (lv_at hl 3 rfl) ?_
        refine lv_icmp_ne (tgt := 27) hx hb dX11_parcelsOf_20 (by decide) (fun c3 => ?_) (fun c3 => ?_)
        · skip
          refine lv_iconst (v := 0) hx hb dX11_parcelsOf_27 (by decide) ?_
          refine lv_iadd hx hb dX11_parcelsOf_28 ?_
          refine lv_topi (fun vs evs => ?_)
          have evs : vs = nI (fa_cnt (fun t => decide (f t = g)) (i4 + 1)) := by rw [evs]; rw [fa_cnt_no (by simp [c3])]; simp
          subst evs
          refine lv_istore_n (lv' := [(2, .int (nI (fa_cnt (fun t => decide (f t = g)) (i4 + 1)))), (3, .int (nI i4)), (0, .ref qm), (1, .int g)]) hx hb dX11_parcelsOf_29 rfl hl (by decide) rfl (fun ls hl => ?_)
          refine lv_iinc (v := nI (i4 + 1)) (lv' := [(3, .int (nI (i4 + 1))), (2, .int (nI (fa_cnt (fun t => decide (f t = g)) (i4 + 1)))), (0, .ref qm), (1, .int g)]) hx hb dX11_parcelsOf_30 hl (k := 1) rfl (nI_1 i4) (by decide) rfl (fun ls hl => ?_)
          refine lv_goto (tgt := 4) hx hb dX11_parcelsOf_33 (by decide) ?_
          exact ihi4 (i4 + 1)  ls (by omega) (by omega)  (lv_sub hl [0, 1, 2, 3] rfl)
        · skip
          refine lv_iconst (v := 1) hx hb dX11_parcelsOf_23 (by decide) ?_
          refine lv_goto (tgt := 28) hx hb dX11_parcelsOf_24 (by decide) ?_
          refine lv_iadd hx hb dX11_parcelsOf_28 ?_
          refine lv_topi (fun vs evs => ?_)
          have evs : vs = nI (fa_cnt (fun t => decide (f t = g)) (i4 + 1)) := by rw [evs]; rw [fa_cnt_yes (by simp [c3])]; exact nI_1 _
          subst evs
          refine lv_istore_n (lv' := [(2, .int (nI (fa_cnt (fun t => decide (f t = g)) (i4 + 1)))), (3, .int (nI i4)), (0, .ref qm), (1, .int g)]) hx hb dX11_parcelsOf_29 rfl hl (by decide) rfl (fun ls hl => ?_)
          refine lv_iinc (v := nI (i4 + 1)) (lv' := [(3, .int (nI (i4 + 1))), (2, .int (nI (fa_cnt (fun t => decide (f t = g)) (i4 + 1)))), (0, .ref qm), (1, .int g)]) hx hb dX11_parcelsOf_30 hl (k := 1) rfl (nI_1 i4) (by decide) rfl (fun ls hl => ?_)
          refine lv_goto (tgt := 4) hx hb dX11_parcelsOf_33 (by decide) ?_
          exact ihi4 (i4 + 1)  ls (by omega) (by omega)  (lv_sub hl [0, 1, 2, 3] rfl)
  exact loop4 (n + 1 - 0) 0  ls (by omega) (by omega)  (lv_sub hl [0, 1, 2, 3] rfl)
set_option maxHeartbeats 4000000 in
set_option maxRecDepth 100000 in
theorem r_X11_letTo (l : Launch) (dC : Nat → ClassId) (dI : Nat → Nat → Nat) (cI : ClassId) (cZ : ClassId) (sz : Nat) (qm : Nat) (w0 : Value) (w1 : Value) (w2 : Value) (w3 : Value) (w4 : Value) (w5 : Value) (w6 : Value) (w7 : Value) (w8 : Value) (w9 : Value) (w10 : Value) (w11 : Value) (w12 : Value) (w13 : Value) (w14 : Value) (w15 : Value) (w16 : Value) (w17 : Value) (w18 : Value) (w19 : Value) (w20 : Value) (w21 : Value) (w22 : Value) (w23 : Value) (w26 : Value) (w27 : Value) (w29 : Value) (w30 : Value) (w31 : Value) (w32 : Value) (w33 : Value) (w34 : Value) (w35 : Value) (w36 : Value) (w37 : Value) (w38 : Value) (ra : Nat) (rz : Nat) (z : Nat → Int32) (cn : Int32) (g : Int32) (n : Nat) (f : Nat → Int32) (hc : cn = nI n) (hn : n ≤ 40) : Met l yX11_letTo wsX11_letTo ({ frames := 0, cells := 0, slots := 0, locals := 0 }) (pw (dC, dI) [(cI, .int), (cZ, .boolean)] [(qm, .inr (11, [w0, w1, w2, w3, w4, w5, w6, w7, w8, w9, w10, w11, w12, w13, w14, w15, w16, w17, w18, w19, w20, w21, w22, w23, .int cn, .ref ra, w26, w27, .ref rz, w29, w30, w31, w32, w33, w34, w35, w36, w37, w38])), (ra, .inl (cI, 40, .inl f)), (rz, .inl (cZ, 40, .inl z))] sz [.ref qm, .int g]) (vp_Si (fun r => r = nI (fa_cnt (fun t => decide (f t = g ∧ z t = 0)) n))) 0 0 (fun _ => False) := by
  refine pw_met (cc := cX11_letTo) (maxL := 4) (ret := (some .int)) (by decide) rfl (Nat.le_of_ble_eq_true rfl) ?_
  intro p e s m below meth c0 hx hb hr hml hown hlocks hnm hts hP hK hD hN hsz hA hS ls hl
  have hl : lv_has ls 4 [(0, .ref qm), (1, .int g)] := hl
  have hiX11 : ∀ w ∈ wsX110, w ∈ wsX11_letTo := by decide +kernel
  obtain ⟨Q, hQ⟩ : ∃ Q : State → Prop, Q = MQ below (vp_Si (fun r => r = nI (fa_cnt (fun t => decide (f t = g ∧ z t = 0)) n))) ([.ref qm, .int g] : List Value).toArray s 0 0 (fun _ => False) := ⟨_, rfl⟩
  rw [← hQ]
  refine lv_iconst (v := 0) hx hb dX11_letTo_0 (by decide) ?_
  refine lv_istore_n (lv' := [(2, .int 0), (0, .ref qm), (1, .int g)]) hx hb dX11_letTo_1 rfl hl (by decide) rfl (fun ls hl => ?_)
  refine lv_iconst (v := 0) hx hb dX11_letTo_2 (by decide) ?_
  refine lv_istore_n (lv' := [(3, .int 0), (2, .int 0), (0, .ref qm), (1, .int g)]) hx hb dX11_letTo_3 rfl hl (by decide) rfl (fun ls hl => ?_)
  have loop4 : ∀ (ni4 i4 : Nat) (ls : Array Slot), i4 ≤ n → n + 1 ≤ i4 + ni4 → lv_has ls 4 [(3, .int (nI i4)), (2, .int (nI (fa_cnt (fun t => decide (f t = g ∧ z t = 0)) i4))), (0, .ref qm), (1, .int g)] → W p l e ({ frames := 0, cells := 0, slots := 0, locals := 0 } : Room) s m ([.ref qm, .int g] : List Value).toArray below meth c0 s.heap [] 0 0 Q (F0 m 4 ls []) := by
    intro ni4
    induction ni4 with
    | zero =>
      intro i4  ls h1 h2
      exact absurd h2 (by omega)
    | succ ni4 ihi4 =>
      intro i4  ls hlei4 hni4  hl
      refine lv_iload_n hx hb dX11_letTo_4 rfl (lv_at hl 0 rfl) ?_
      refine lv_aload_n hx hb dX11_letTo_5 rfl (lv_at hl 2 rfl) ?_
      refine va_get (D := (dC, dI)) (ci := 11) (v := .int cn) (C := RX11) (T := TX11) (N := 39) hx hb hts hiX11 hown hK hP 0 rfl rfl 24 (by decide) (hts (.fieldLink RX11 188 "TributePitchesModel" "takes" "I") (by decide +kernel)) (fun _ h9 => h9) rfl dX11_letTo_6 ?_
      refine lv_icmp_ge (tgt := 45) hx hb dX11_letTo_9 (by decide) (fun c1 => ?_) (fun c1 => ?_)
      · skip
        have hei4 : i4 = n := (Nat.lt_or_ge i4 n).elim (fun q => absurd c1 (by rw [hc]; exact nI_ge q (by omega))) (fun q => by omega)
        refine lv_iload_n hx hb dX11_letTo_45 rfl (lv_at hl 1 rfl) ?_
        rw [hQ]
        exact W.iret (v := nI (fa_cnt (fun t => decide (f t = g ∧ z t = 0)) i4)) hx hb hr (fun t ht hW => ⟨nI (fa_cnt (fun t => decide (f t = g ∧ z t = 0)) i4), rfl, (by rw [hei4]), ht⟩) (fun q h => absurd h List.not_mem_nil) dX11_letTo_46
      · skip
        have hlti4 : i4 < n := (Nat.lt_or_ge i4 n).elim id (fun q => absurd (by rw [hc]; exact nI_le q (by omega)) c1)
        refine lv_iload_n hx hb dX11_letTo_12 rfl (lv_at hl 1 rfl) ?_
        refine lv_aload_n hx hb dX11_letTo_13 rfl (lv_at hl 2 rfl) ?_
        refine va_get (D := (dC, dI)) (ci := 11) (v := .ref ra) (C := RX11) (T := TX11) (N := 39) hx hb hts hiX11 hown hK hP 0 rfl rfl 25 (by decide) (hts (.fieldLink RX11 56 "TributePitchesModel" "gangOf" "[I") (by decide +kernel)) (fun _ h9 => h9) rfl dX11_letTo_14 ?_
        refine lv_iload_n hx hb dX11_letTo_17 rfl (lv_at hl 0 rfl) ?_
        refine va_iald hx hb hK hP 1 0 rfl rfl (vp_in_nI (by omega) (by omega)) dX11_letTo_18 ?_
        refine lv_topi (fun v2 ev2 => ?_)
        have ev2 : v2 = f i4 := by rw [ev2]; rw [nI_clamp (by omega)]
        subst ev2
        refine lv_iload_n hx hb dX11_letTo_19 rfl (lv_at hl 3 rfl) ?_
        refine lv_icmp_ne (tgt := 36) hx hb dX11_letTo_20 (by decide) (fun c3 => ?_) (fun c3 => ?_)
        · skip
          refine lv_iconst (v := 0) hx hb dX11_letTo_36 (by decide) ?_
          refine lv_iadd hx hb dX11_letTo_37 ?_
          refine lv_topi (fun vs evs => ?_)
          have evs : vs = nI (fa_cnt (fun t => decide (f t = g ∧ z t = 0)) (i4 + 1)) := by rw [evs]; rw [fa_cnt_no (by simp [c1, c3])]; simp
          subst evs
          refine lv_istore_n (lv' := [(2, .int (nI (fa_cnt (fun t => decide (f t = g ∧ z t = 0)) (i4 + 1)))), (3, .int (nI i4)), (0, .ref qm), (1, .int g)]) hx hb dX11_letTo_38 rfl hl (by decide) rfl (fun ls hl => ?_)
          refine lv_iinc (v := nI (i4 + 1)) (lv' := [(3, .int (nI (i4 + 1))), (2, .int (nI (fa_cnt (fun t => decide (f t = g ∧ z t = 0)) (i4 + 1)))), (0, .ref qm), (1, .int g)]) hx hb dX11_letTo_39 hl (k := 1) rfl (nI_1 i4) (by decide) rfl (fun ls hl => ?_)
          refine lv_goto (tgt := 4) hx hb dX11_letTo_42 (by decide) ?_
          exact ihi4 (i4 + 1)  ls (by omega) (by omega)  (lv_sub hl [0, 1, 2, 3] rfl)
        · skip
          refine lv_aload_n hx hb dX11_letTo_23 rfl (lv_at hl 2 rfl) ?_
          refine va_get (D := (dC, dI)) (ci := 11) (v := .ref rz) (C := RX11) (T := TX11) (N := 39) hx hb hts hiX11 hown hK hP 0 rfl rfl 28 (by decide) (hts (.fieldLink RX11 65 "TributePitchesModel" "isSettled" "[Z") (by decide +kernel)) (fun _ h9 => h9) rfl dX11_letTo_24 ?_
          refine lv_iload_n hx hb dX11_letTo_27 rfl (lv_at hl 0 rfl) ?_
          refine va_zald hx hb hK hP 2 1 rfl rfl (vp_in_nI (by omega) (by omega)) dX11_letTo_28 ?_
          refine lv_topi (fun v4 ev4 => ?_)
          have ev4 : v4 = z i4 := by rw [ev4]; rw [nI_clamp (by omega)]
          subst ev4
          refine lv_if_ne (tgt := 36) hx hb dX11_letTo_29 (by decide) (fun c5 => ?_) (fun c5 => ?_)
          · skip
            refine lv_iconst (v := 0) hx hb dX11_letTo_36 (by decide) ?_
            refine lv_iadd hx hb dX11_letTo_37 ?_
            refine lv_topi (fun vs evs => ?_)
            have evs : vs = nI (fa_cnt (fun t => decide (f t = g ∧ z t = 0)) (i4 + 1)) := by rw [evs]; rw [fa_cnt_no (by simp [c3, c5])]; simp
            subst evs
            refine lv_istore_n (lv' := [(2, .int (nI (fa_cnt (fun t => decide (f t = g ∧ z t = 0)) (i4 + 1)))), (3, .int (nI i4)), (0, .ref qm), (1, .int g)]) hx hb dX11_letTo_38 rfl hl (by decide) rfl (fun ls hl => ?_)
            refine lv_iinc (v := nI (i4 + 1)) (lv' := [(3, .int (nI (i4 + 1))), (2, .int (nI (fa_cnt (fun t => decide (f t = g ∧ z t = 0)) (i4 + 1)))), (0, .ref qm), (1, .int g)]) hx hb dX11_letTo_39 hl (k := 1) rfl (nI_1 i4) (by decide) rfl (fun ls hl => ?_)
            refine lv_goto (tgt := 4) hx hb dX11_letTo_42 (by decide) ?_
            exact ihi4 (i4 + 1)  ls (by omega) (by omega)  (lv_sub hl [0, 1, 2, 3] rfl)
          · skip
            refine lv_iconst (v := 1) hx hb dX11_letTo_32 (by decide) ?_
            refine lv_goto (tgt := 37) hx hb dX11_letTo_33 (by decide) ?_
            refine lv_iadd hx hb dX11_letTo_37 ?_
            refine lv_topi (fun vs evs => ?_)
            have evs : vs = nI (fa_cnt (fun t => decide (f t = g ∧ z t = 0)) (i4 + 1)) := by rw [evs]; rw [fa_cnt_yes (by simp [c3, c5])]; exact nI_1 _
            subst evs
            refine lv_istore_n (lv' := [(2, .int (nI (fa_cnt (fun t => decide (f t = g ∧ z t = 0)) (i4 + 1)))), (3, .int (nI i4)), (0, .ref qm), (1, .int g)]) hx hb dX11_letTo_38 rfl hl (by decide) rfl (fun ls hl => ?_)
            refine lv_iinc (v := nI (i4 + 1)) (lv' := [(3, .int (nI (i4 + 1))), (2, .int (nI (fa_cnt (fun t => decide (f t = g ∧ z t = 0)) (i4 + 1)))), (0, .ref qm), (1, .int g)]) hx hb dX11_letTo_39 hl (k := 1) rfl (nI_1 i4) (by decide) rfl (fun ls hl => ?_)
            refine lv_goto (tgt := 4) hx hb dX11_letTo_42 (by decide) ?_
            exact ihi4 (i4 + 1)  ls (by omega) (by omega)  (lv_sub hl [0, 1, 2, 3] rfl)
  exact loop4 (n + 1 - 0) 0  ls (by omega) (by omega)  (lv_sub hl [0, 1, 2, 3] rfl)
set_option maxHeartbeats 4000000 in
set_option maxRecDepth 100000 in
theorem r_X11_takeOf (l : Launch) (dC : Nat → ClassId) (dI : Nat → Nat → Nat) (cI : ClassId) (cZ : ClassId) (sz : Nat) (qm : Nat) (w0 : Value) (w1 : Value) (w2 : Value) (w3 : Value) (w4 : Value) (w5 : Value) (w6 : Value) (w7 : Value) (w8 : Value) (w9 : Value) (w10 : Value) (w11 : Value) (w12 : Value) (w13 : Value) (w14 : Value) (w15 : Value) (w16 : Value) (w17 : Value) (w18 : Value) (w19 : Value) (w20 : Value) (w21 : Value) (w22 : Value) (w23 : Value) (w25 : Value) (w27 : Value) (w29 : Value) (w30 : Value) (w31 : Value) (w32 : Value) (w33 : Value) (w34 : Value) (w35 : Value) (w36 : Value) (w37 : Value) (w38 : Value) (ra : Nat) (rz : Nat) (z : Nat → Int32) (cn : Int32) (g : Int32) (n : Nat) (f : Nat → Int32) (hc : cn = nI n) (hn : n ≤ 40) : Met l yX11_takeOf wsX11_takeOf ({ frames := 0, cells := 0, slots := 0, locals := 0 }) (pw (dC, dI) [(cI, .int), (cZ, .boolean)] [(qm, .inr (11, [w0, w1, w2, w3, w4, w5, w6, w7, w8, w9, w10, w11, w12, w13, w14, w15, w16, w17, w18, w19, w20, w21, w22, w23, .int cn, w25, .ref ra, w27, .ref rz, w29, w30, w31, w32, w33, w34, w35, w36, w37, w38])), (ra, .inl (cI, 40, .inl f)), (rz, .inl (cZ, 40, .inl z))] sz [.ref qm, .int g]) (vp_Si (fun r => (r = -9 ∧ ∀ u, u < n → ¬ (f u = g ∧ z u = 0)) ∨ (∃ u, u < n ∧ r = nI u ∧ (f u = g ∧ z u = 0) ∧ ∀ v, v < u → ¬ (f v = g ∧ z v = 0)))) 0 0 (fun _ => False) := by
  refine pw_met (cc := cX11_takeOf) (maxL := 3) (ret := (some .int)) (by decide) rfl (Nat.le_of_ble_eq_true rfl) ?_
  intro p e s m below meth c0 hx hb hr hml hown hlocks hnm hts hP hK hD hN hsz hA hS ls hl
  have hl : lv_has ls 3 [(0, .ref qm), (1, .int g)] := hl
  have hiX11 : ∀ w ∈ wsX110, w ∈ wsX11_takeOf := by decide +kernel
  obtain ⟨Q, hQ⟩ : ∃ Q : State → Prop, Q = MQ below (vp_Si (fun r => (r = -9 ∧ ∀ u, u < n → ¬ (f u = g ∧ z u = 0)) ∨ (∃ u, u < n ∧ r = nI u ∧ (f u = g ∧ z u = 0) ∧ ∀ v, v < u → ¬ (f v = g ∧ z v = 0)))) ([.ref qm, .int g] : List Value).toArray s 0 0 (fun _ => False) := ⟨_, rfl⟩
  rw [← hQ]
  refine lv_iconst (v := 0) hx hb dX11_takeOf_0 (by decide) ?_
  refine lv_istore_n (lv' := [(2, .int 0), (0, .ref qm), (1, .int g)]) hx hb dX11_takeOf_1 rfl hl (by decide) rfl (fun ls hl => ?_)
  have loop2 : ∀ (ni2 i2 : Nat) (ls : Array Slot), i2 ≤ n → n + 1 ≤ i2 + ni2 → (∀ u, u < i2 → ¬ (f u = g ∧ z u = 0)) → lv_has ls 3 [(2, .int (nI i2)), (0, .ref qm), (1, .int g)] → W p l e ({ frames := 0, cells := 0, slots := 0, locals := 0 } : Room) s m ([.ref qm, .int g] : List Value).toArray below meth c0 s.heap [] 0 0 Q (F0 m 2 ls []) := by
    intro ni2
    induction ni2 with
    | zero =>
      intro i2  ls h1 h2
      exact absurd h2 (by omega)
    | succ ni2 ihi2 =>
      intro i2  ls hlei2 hni2 hall hl
      refine lv_iload_n hx hb dX11_takeOf_2 rfl (lv_at hl 0 rfl) ?_
      refine lv_aload_n hx hb dX11_takeOf_3 rfl (lv_at hl 1 rfl) ?_
      refine va_get (D := (dC, dI)) (ci := 11) (v := .int cn) (C := RX11) (T := TX11) (N := 39) hx hb hts hiX11 hown hK hP 0 rfl rfl 24 (by decide) (hts (.fieldLink RX11 188 "TributePitchesModel" "takes" "I") (by decide +kernel)) (fun _ h9 => h9) rfl dX11_takeOf_4 ?_
      refine lv_icmp_ge (tgt := 37) hx hb dX11_takeOf_7 (by decide) (fun c1 => ?_) (fun c1 => ?_)
      · skip
        have hei2 : i2 = n := (Nat.lt_or_ge i2 n).elim (fun q => absurd c1 (by rw [hc]; exact nI_ge q (by omega))) (fun q => by omega)
        refine lv_bipush (v := (-9)) hx hb dX11_takeOf_37 (by decide) ?_
        rw [hQ]
        exact W.iret (v := (-9)) hx hb hr (fun t ht hW => ⟨(-9), rfl, (Or.inl ⟨rfl, by rw [← hei2]; exact hall⟩), ht⟩) (fun q h => absurd h List.not_mem_nil) dX11_takeOf_39
      · skip
        have hlti2 : i2 < n := (Nat.lt_or_ge i2 n).elim id (fun q => absurd (by rw [hc]; exact nI_le q (by omega)) c1)
        refine lv_aload_n hx hb dX11_takeOf_10 rfl (lv_at hl 1 rfl) ?_
        refine va_get (D := (dC, dI)) (ci := 11) (v := .ref ra) (C := RX11) (T := TX11) (N := 39) hx hb hts hiX11 hown hK hP 0 rfl rfl 26 (by decide) (hts (.fieldLink RX11 59 "TributePitchesModel" "pitchOf" "[I") (by decide +kernel)) (fun _ h9 => h9) rfl dX11_takeOf_11 ?_
        refine lv_iload_n hx hb dX11_takeOf_14 rfl (lv_at hl 0 rfl) ?_
        refine va_iald hx hb hK hP 1 0 rfl rfl (vp_in_nI (by omega) (by omega)) dX11_takeOf_15 ?_
        refine lv_topi (fun v2 ev2 => ?_)
        have ev2 : v2 = f i2 := by rw [ev2]; rw [nI_clamp (by omega)]
        subst ev2
        refine lv_iload_n hx hb dX11_takeOf_16 rfl (lv_at hl 2 rfl) ?_
        refine lv_icmp_ne (tgt := 31) hx hb dX11_takeOf_17 (by decide) (fun c3 => ?_) (fun c3 => ?_)
        · skip
          refine lv_iinc (v := nI (i2 + 1)) (lv' := [(2, .int (nI (i2 + 1))), (0, .ref qm), (1, .int g)]) hx hb dX11_takeOf_31 hl (k := 0) rfl (nI_1 i2) (by decide) rfl (fun ls hl => ?_)
          refine lv_goto (tgt := 2) hx hb dX11_takeOf_34 (by decide) ?_
          exact ihi2 (i2 + 1)  ls (by omega) (by omega) (fun u hu => (Nat.lt_or_ge u i2).elim (fun q => hall u q) (fun q => by have e9 : u = i2 := (by omega); rw [e9]; exact fun w => absurd w.1 c3)) (lv_sub hl [0, 1, 2] rfl)
        · skip
          refine lv_aload_n hx hb dX11_takeOf_20 rfl (lv_at hl 1 rfl) ?_
          refine va_get (D := (dC, dI)) (ci := 11) (v := .ref rz) (C := RX11) (T := TX11) (N := 39) hx hb hts hiX11 hown hK hP 0 rfl rfl 28 (by decide) (hts (.fieldLink RX11 65 "TributePitchesModel" "isSettled" "[Z") (by decide +kernel)) (fun _ h9 => h9) rfl dX11_takeOf_21 ?_
          refine lv_iload_n hx hb dX11_takeOf_24 rfl (lv_at hl 0 rfl) ?_
          refine va_zald hx hb hK hP 2 1 rfl rfl (vp_in_nI (by omega) (by omega)) dX11_takeOf_25 ?_
          refine lv_topi (fun v4 ev4 => ?_)
          have ev4 : v4 = z i2 := by rw [ev4]; rw [nI_clamp (by omega)]
          subst ev4
          refine lv_if_ne (tgt := 31) hx hb dX11_takeOf_26 (by decide) (fun c5 => ?_) (fun c5 => ?_)
          · skip
            refine lv_iinc (v := nI (i2 + 1)) (lv' := [(2, .int (nI (i2 + 1))), (0, .ref qm), (1, .int g)]) hx hb dX11_takeOf_31 hl (k := 0) rfl (nI_1 i2) (by decide) rfl (fun ls hl => ?_)
            refine lv_goto (tgt := 2) hx hb dX11_takeOf_34 (by decide) ?_
            exact ihi2 (i2 + 1)  ls (by omega) (by omega) (fun u hu => (Nat.lt_or_ge u i2).elim (fun q => hall u q) (fun q => by have e9 : u = i2 := (by omega); rw [e9]; exact fun w => absurd w.2 c5)) (lv_sub hl [0, 1, 2] rfl)
          · skip
            refine lv_iload_n hx hb dX11_takeOf_29 rfl (lv_at hl 0 rfl) ?_
            rw [hQ]
            exact W.iret (v := nI i2) hx hb hr (fun t ht hW => ⟨nI i2, rfl, (Or.inr ⟨i2, hlti2, rfl, ⟨c3, c5⟩, hall⟩), ht⟩) (fun q h => absurd h List.not_mem_nil) dX11_takeOf_30
  exact loop2 (n + 1 - 0) 0  ls (by omega) (by omega) (fun u hu => absurd hu (Nat.not_lt_zero u)) (lv_sub hl [0, 1, 2] rfl)
set_option maxHeartbeats 4000000 in
set_option maxRecDepth 100000 in
theorem r_X11_worthOf (l : Launch) (dC : Nat → ClassId) (dI : Nat → Nat → Nat) (cI : ClassId) (sz : Nat) (qm : Nat) (w0 : Value) (w1 : Value) (w2 : Value) (w3 : Value) (w4 : Value) (w5 : Value) (w6 : Value) (w7 : Value) (w8 : Value) (w9 : Value) (w10 : Value) (w11 : Value) (w12 : Value) (w13 : Value) (w14 : Value) (w15 : Value) (w16 : Value) (w17 : Value) (w18 : Value) (w19 : Value) (w20 : Value) (w21 : Value) (w22 : Value) (w23 : Value) (w24 : Value) (w25 : Value) (w26 : Value) (w27 : Value) (w28 : Value) (w29 : Value) (w30 : Value) (w31 : Value) (w32 : Value) (w33 : Value) (w38 : Value) (ra : Nat) (rb : Nat) (rc : Nat) (cn : Int32) (g : Int32) (n : Nat) (f : Nat → Int32) (fa : Nat → Int32) (fb : Nat → Int32) (hc : cn = nI n) (hn : n ≤ 80) : Met l yX11_worthOf wsX11_worthOf ({ frames := 0, cells := 0, slots := 0, locals := 0 }) (pw (dC, dI) [(cI, .int)] [(qm, .inr (11, [w0, w1, w2, w3, w4, w5, w6, w7, w8, w9, w10, w11, w12, w13, w14, w15, w16, w17, w18, w19, w20, w21, w22, w23, w24, w25, w26, w27, w28, w29, w30, w31, w32, w33, .int cn, .ref ra, .ref rb, .ref rc, w38])), (ra, .inl (cI, 80, .inl f)), (rb, .inl (cI, 80, .inl fa)), (rc, .inl (cI, 80, .inl fb))] sz [.ref qm, .int g]) (vp_Sl (fun r => r = wsum f fa fb g n)) 0 0 (fun _ => False) := by
  refine pw_met (cc := cX11_worthOf) (maxL := 5) (ret := (some .long)) (by decide) rfl (Nat.le_of_ble_eq_true rfl) ?_
  intro p e s m below meth c0 hx hb hr hml hown hlocks hnm hts hP hK hD hN hsz hA hS ls hl
  have hl : lv_has ls 5 [(0, .ref qm), (1, .int g)] := hl
  have hiX11 : ∀ w ∈ wsX110, w ∈ wsX11_worthOf := by decide +kernel
  obtain ⟨Q, hQ⟩ : ∃ Q : State → Prop, Q = MQ below (vp_Sl (fun r => r = wsum f fa fb g n)) ([.ref qm, .int g] : List Value).toArray s 0 0 (fun _ => False) := ⟨_, rfl⟩
  rw [← hQ]
  refine lv_lconst (v := 0) hx hb dX11_worthOf_0 (by decide) ?_
  refine lv_lstore_n (lv' := [(2, .long 0), (0, .ref qm), (1, .int g)]) hx hb dX11_worthOf_1 rfl hl (by decide) rfl (fun ls hl => ?_)
  refine lv_iconst (v := 0) hx hb dX11_worthOf_2 (by decide) ?_
  refine lv_istore (lv' := [(4, .int 0), (2, .long 0), (0, .ref qm), (1, .int g)]) hx hb dX11_worthOf_3 hl (by decide) rfl (fun ls hl => ?_)
  have loop5 : ∀ (ni5 i5 : Nat) (ls : Array Slot), i5 ≤ n → n + 1 ≤ i5 + ni5 → lv_has ls 5 [(4, .int (nI i5)), (2, .long (wsum f fa fb g i5)), (0, .ref qm), (1, .int g)] → W p l e ({ frames := 0, cells := 0, slots := 0, locals := 0 } : Room) s m ([.ref qm, .int g] : List Value).toArray below meth c0 s.heap [] 0 0 Q (F0 m 5 ls []) := by
    intro ni5
    induction ni5 with
    | zero =>
      intro i5  ls h1 h2
      exact absurd h2 (by omega)
    | succ ni5 ihi5 =>
      intro i5  ls hlei5 hni5  hl
      refine lv_iload hx hb dX11_worthOf_5 (lv_at hl 0 rfl) ?_
      refine lv_aload_n hx hb dX11_worthOf_7 rfl (lv_at hl 2 rfl) ?_
      refine va_get (D := (dC, dI)) (ci := 11) (v := .int cn) (C := RX11) (T := TX11) (N := 39) hx hb hts hiX11 hown hK hP 0 rfl rfl 34 (by decide) (hts (.fieldLink RX11 217 "TributePitchesModel" "parcels" "I") (by decide +kernel)) (fun _ h9 => h9) rfl dX11_worthOf_8 ?_
      refine lv_icmp_ge (tgt := 55) hx hb dX11_worthOf_11 (by decide) (fun c1 => ?_) (fun c1 => ?_)
      · skip
        have hei5 : i5 = n := (Nat.lt_or_ge i5 n).elim (fun q => absurd c1 (by rw [hc]; exact nI_ge q (by omega))) (fun q => by omega)
        refine lv_lload_n hx hb dX11_worthOf_55 rfl (lv_at hl 1 rfl) ?_
        rw [hQ]
        exact W.lret (v := wsum f fa fb g i5) hx hb hr (fun t ht hW => ⟨wsum f fa fb g i5, rfl, (by rw [hei5]), ht⟩) (fun q h => absurd h List.not_mem_nil) dX11_worthOf_56
      · skip
        have hlti5 : i5 < n := (Nat.lt_or_ge i5 n).elim id (fun q => absurd (by rw [hc]; exact nI_le q (by omega)) c1)
        refine lv_lload_n hx hb dX11_worthOf_14 rfl (lv_at hl 1 rfl) ?_
        refine lv_aload_n hx hb dX11_worthOf_15 rfl (lv_at hl 2 rfl) ?_
        refine va_get (D := (dC, dI)) (ci := 11) (v := .ref ra) (C := RX11) (T := TX11) (N := 39) hx hb hts hiX11 hown hK hP 0 rfl rfl 35 (by decide) (hts (.fieldLink RX11 84 "TributePitchesModel" "parcelTake" "[I") (by decide +kernel)) (fun _ h9 => h9) rfl dX11_worthOf_16 ?_
        refine lv_iload hx hb dX11_worthOf_19 (lv_at hl 0 rfl) ?_
        refine va_iald hx hb hK hP 1 0 rfl rfl (vp_in_nI (by omega) (by omega)) dX11_worthOf_21 ?_
        refine lv_topi (fun v2 ev2 => ?_)
        have ev2 : v2 = f i5 := by rw [ev2]; rw [nI_clamp (by omega)]
        subst ev2
        refine lv_iload_n hx hb dX11_worthOf_22 rfl (lv_at hl 3 rfl) ?_
        refine lv_icmp_ne (tgt := 46) hx hb dX11_worthOf_23 (by decide) (fun c3 => ?_) (fun c3 => ?_)
        · skip
          refine lv_lconst (v := 0) hx hb dX11_worthOf_46 (by decide) ?_
          refine lv_ladd hx hb dX11_worthOf_47 ?_
          refine lv_topl (fun vs evs => ?_)
          have evs : vs = wsum f fa fb g (i5 + 1) := by rw [evs]; rw [wsum, if_neg c3]
          subst evs
          refine lv_lstore_n (lv' := [(2, .long (wsum f fa fb g (i5 + 1))), (4, .int (nI i5)), (0, .ref qm), (1, .int g)]) hx hb dX11_worthOf_48 rfl hl (by decide) rfl (fun ls hl => ?_)
          refine lv_iinc (v := nI (i5 + 1)) (lv' := [(4, .int (nI (i5 + 1))), (2, .long (wsum f fa fb g (i5 + 1))), (0, .ref qm), (1, .int g)]) hx hb dX11_worthOf_49 hl (k := 1) rfl (nI_1 i5) (by decide) rfl (fun ls hl => ?_)
          refine lv_goto (tgt := 5) hx hb dX11_worthOf_52 (by decide) ?_
          exact ihi5 (i5 + 1)  ls (by omega) (by omega)  (lv_sub hl [0, 1, 2, 3] rfl)
        · skip
          refine lv_aload_n hx hb dX11_worthOf_26 rfl (lv_at hl 2 rfl) ?_
          refine va_get (D := (dC, dI)) (ci := 11) (v := .ref rb) (C := RX11) (T := TX11) (N := 39) hx hb hts hiX11 hown hK hP 0 rfl rfl 36 (by decide) (hts (.fieldLink RX11 87 "TributePitchesModel" "parcelTons" "[I") (by decide +kernel)) (fun _ h9 => h9) rfl dX11_worthOf_27 ?_
          refine lv_iload hx hb dX11_worthOf_30 (lv_at hl 0 rfl) ?_
          refine va_iald hx hb hK hP 2 0 rfl rfl (vp_in_nI (by omega) (by omega)) dX11_worthOf_32 ?_
          refine lv_topi (fun v4 ev4 => ?_)
          have ev4 : v4 = fa i5 := by rw [ev4]; rw [nI_clamp (by omega)]
          subst ev4
          refine lv_i2l (v := (fa i5).toInt64) hx hb dX11_worthOf_33 rfl ?_
          refine lv_aload_n hx hb dX11_worthOf_34 rfl (lv_at hl 2 rfl) ?_
          refine va_get (D := (dC, dI)) (ci := 11) (v := .ref rc) (C := RX11) (T := TX11) (N := 39) hx hb hts hiX11 hown hK hP 0 rfl rfl 37 (by decide) (hts (.fieldLink RX11 90 "TributePitchesModel" "parcelGood" "[I") (by decide +kernel)) (fun _ h9 => h9) rfl dX11_worthOf_35 ?_
          refine lv_iload hx hb dX11_worthOf_38 (lv_at hl 0 rfl) ?_
          refine va_iald hx hb hK hP 3 0 rfl rfl (vp_in_nI (by omega) (by omega)) dX11_worthOf_40 ?_
          refine lv_topi (fun v5 ev5 => ?_)
          have ev5 : v5 = fb i5 := by rw [ev5]; rw [nI_clamp (by omega)]
          subst ev5
          refine lv_i2l (v := (fb i5).toInt64) hx hb dX11_worthOf_41 rfl ?_
          refine lv_lmul hx hb dX11_worthOf_42 ?_
          refine lv_goto (tgt := 47) hx hb dX11_worthOf_43 (by decide) ?_
          refine lv_ladd hx hb dX11_worthOf_47 ?_
          refine lv_topl (fun vs evs => ?_)
          have evs : vs = wsum f fa fb g (i5 + 1) := by rw [evs]; rw [wsum, if_pos c3]
          subst evs
          refine lv_lstore_n (lv' := [(2, .long (wsum f fa fb g (i5 + 1))), (4, .int (nI i5)), (0, .ref qm), (1, .int g)]) hx hb dX11_worthOf_48 rfl hl (by decide) rfl (fun ls hl => ?_)
          refine lv_iinc (v := nI (i5 + 1)) (lv' := [(4, .int (nI (i5 + 1))), (2, .long (wsum f fa fb g (i5 + 1))), (0, .ref qm), (1, .int g)]) hx hb dX11_worthOf_49 hl (k := 1) rfl (nI_1 i5) (by decide) rfl (fun ls hl => ?_)
          refine lv_goto (tgt := 5) hx hb dX11_worthOf_52 (by decide) ?_
          exact ihi5 (i5 + 1)  ls (by omega) (by omega)  (lv_sub hl [0, 1, 2, 3] rfl)
  exact loop5 (n + 1 - 0) 0  ls (by omega) (by omega)  (lv_sub hl [0, 1, 2, 3] rfl)
