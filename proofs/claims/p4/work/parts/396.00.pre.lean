def cfault (ln le la i n s : Int32) : Int32 := if ln = -1 then 1 else if ¬ ln = la then 2 else if ¬ 0 ≤ n then 4 else if 0 < n ∧ ¬ (0 ≤ i ∧ 0 ≤ n ∧ i.toInt64 + n.toInt64 ≤ le.toInt64) then 3 else if 48 - s < n then 3 else 0
theorem cf0 {ln le la i n s : Int32} (hl : le.toInt ≤ 48) (hs : 0 ≤ s ∧ s ≤ 47) (h : cfault ln le la i n s = 0) : ln = la ∧ ¬ ln = -1 ∧ ∃ nn sa : Nat, n = nI nn ∧ s = nI sa ∧ sa + nn ≤ 48 ∧ sa < 48 ∧ (nn = 0 ∨ ∃ ia : Nat, i = nI ia ∧ ia + nn ≤ 48 ∧ ((ia + nn : Nat) : Int) ≤ le.toInt) := by
  unfold cfault at h
  by_cases h1 : ln = -1
  · rw [if_pos h1] at h; exact absurd h (by decide)
  rw [if_neg h1] at h
  by_cases h2 : ln = la
  · rw [if_neg (not_not_intro h2)] at h
    by_cases h3 : 0 ≤ n
    · rw [if_neg (not_not_intro h3)] at h
      by_cases h4 : 0 < n ∧ ¬ (0 ≤ i ∧ 0 ≤ n ∧ i.toInt64 + n.toInt64 ≤ le.toInt64)
      · rw [if_pos h4] at h; exact absurd h (by decide)
      rw [if_neg h4] at h
      by_cases h5 : 48 - s < n
      · rw [if_pos h5] at h; exact absurd h (by decide)
      obtain ⟨sa, hsa, rfl⟩ := nI_of2 (x := s) (M := 47) (n := 47) (by decide) (Int32.not_lt.mpr hs.1) hs.2
      obtain ⟨nn, hnn, rfl⟩ := nI_of (x := n) (Int32.not_lt.mpr h3)
      have e : (48 : Int32) - nI sa = nI (48 - sa) := pk_sub (a := 48) (by omega)
      rw [e] at h5
      have h6 : nn ≤ 48 - sa := Nat.not_lt.mp fun q => h5 (nI_lt q hnn)
      refine ⟨h2, h1, nn, sa, rfl, rfl, by omega, by omega, ?_⟩
      rcases Nat.eq_zero_or_pos nn with h7 | h7
      · exact Or.inl h7
      · have h8 : (0 : Int32) < nI nn := show nI 0 < nI nn from nI_lt h7 hnn
        have h9 : 0 ≤ i ∧ 0 ≤ nI nn ∧ i.toInt64 + (nI nn).toInt64 ≤ le.toInt64 := Decidable.byContradiction fun q => h4 ⟨h8, q⟩
        obtain ⟨a, b, e1, e2, h10, h11⟩ := hold_nat h9 hl
        have e3 : b = nn := (nI_eq (by omega) hnn).mp e2.symm
        subst e3
        exact Or.inr ⟨a, e1, h10, h11⟩
    · rw [if_pos h3] at h; exact absurd h (by decide)
  · rw [if_pos h2] at h; exact absurd h (by decide)
def chL (g : Nat → Int32) (f s : Nat) (a : Nat → Int32) : Nat → Nat → Int32
  | 0 => a
  | c + 1 => if g (f + c) < 0 then chL g f s a c else tcL (s + c) (g (f + c)) (chL g f s a c)
def chH (g : Nat → Int32) (f s : Nat) (a : Nat → Int32) : Nat → Nat → Int32
  | 0 => a
  | c + 1 => if g (f + c) < 0 then chH g f s a c else tcH (s + c) (g (f + c)) (chH g f s a c)
set_option maxHeartbeats 4000000 in
set_option maxRecDepth 100000 in
theorem s_chartFault (l : Launch) (dC : Nat → ClassId) (dI : Nat → Nat → Nat)  (sz : Nat) (qs : Nat) (c0v : Value) (ln : Int32) (le : Int32) (la : Int32) (i : Int32) (n : Int32) (sv : Int32)  : Met l yX10_chartFault wsX10_chartFault ({ frames := 2, cells := 0, slots := 0, locals := 60 }) (pw (dC, dI) [] [(qs, .inr (7, [c0v, .int ln, .int le]))] sz [.ref qs, .int la, .int i, .int n, .int sv]) (vp_Si (fun r => r = cfault ln le la i n sv)) 0 0 (fun _ => False) := by
  refine pw_met (cc := cX10_chartFault) (maxL := 6) (ret := (some .int)) (by decide) rfl (Nat.le_of_ble_eq_true rfl) ?_
  intro p e s m below meth c0 hx hb hr hml hown hlocks hnm hts hP hK hD hN hsz hA hS ls hl
  have hl : lv_has ls 6 [(0, .ref qs), (1, .int la), (2, .int i), (3, .int n), (4, .int sv)] := hl
  generalize hQ : MQ _ _ _ _ _ _ _ = Q
  refine lv_aload_n hx hb dX10_chartFault_0 rfl (lv_at hl 0 rfl) ?_
  refine lv_iload_n hx hb dX10_chartFault_1 rfl (lv_at hl 1 rfl) ?_
  have hPc := hP.sub (ws' := [(qs, .inr (7, [c0v, .int ln, .int le]))]) [0] rfl
  have hDc := hD.sub (ws' := [(qs, .inr (7, [c0v, .int ln, .int le]))]) [0] (by decide) rfl
  have hKc := hK.sub (tys' := []) [] rfl
  refine vp_callSi (va_Run.run (va_runV (As := [.int la]) (rest := []) ⟨hx, hb, hml, hown, hts⟩ (s_faultAs l dC dI  _ qs c0v ln le la ) (cwV 1 hts gX10_chartFault_X7_faultAs rfl rfl rfl (by decide +kernel) ⟨Nat.le_of_ble_eq_true rfl, Nat.le_of_ble_eq_true rfl⟩) (pw_preV (va_recv hKc hPc (ci := 7) (q0 := 0) rfl rfl) hPc hKc hDc hN) rfl rfl hl.1 rfl (lv_room (Nat.le_of_ble_eq_true rfl)) dX10_chartFault_2 ⟨Nat.le_of_ble_eq_true rfl, Nat.le_of_ble_eq_true rfl⟩)) (fun r1 hr1 => ?_)
  have hr1 : r1 = if ln = -1 then 1 else if ln = la then 0 else 2 := hr1
  by_cases hl1 : ln = -1
  · rw [if_pos hl1] at hr1; subst hr1
    refine lv_istore (lv' := [(5, .int 1), (0, .ref qs), (1, .int la), (2, .int i), (3, .int n), (4, .int sv)]) hx hb dX10_chartFault_5 hl (by decide) rfl (fun ls hl => ?_)
    refine lv_iload hx hb dX10_chartFault_7 (lv_at hl 0 rfl) ?_
    refine lv_if_eq (tgt := 15) hx hb dX10_chartFault_9 (by decide) (fun c2 => ?_) (fun c2 => ?_)
    · exact absurd c2 (by decide)
    · skip
      refine lv_iload hx hb dX10_chartFault_12 (lv_at hl 0 rfl) ?_
      subst hQ
      exact W.iret (v := 1) hx hb hr (fun t ht hW => ⟨1, rfl, (by rw [cfault, if_pos hl1]), ht⟩) (fun q h => absurd h List.not_mem_nil) dX10_chartFault_14
  · rw [if_neg hl1] at hr1
    by_cases hl2 : ln = la
    · rw [if_pos hl2] at hr1; subst hr1
      refine lv_istore (lv' := [(5, .int 0), (0, .ref qs), (1, .int la), (2, .int i), (3, .int n), (4, .int sv)]) hx hb dX10_chartFault_5 hl (by decide) rfl (fun ls hl => ?_)
      refine lv_iload hx hb dX10_chartFault_7 (lv_at hl 0 rfl) ?_
      refine lv_if_eq (tgt := 15) hx hb dX10_chartFault_9 (by decide) (fun c3 => ?_) (fun c3 => ?_)
      · skip
        refine lv_iload_n hx hb dX10_chartFault_15 rfl (lv_at hl 4 rfl) ?_
        refine lv_if_ge (tgt := 21) hx hb dX10_chartFault_16 (by decide) (fun c4 => ?_) (fun c4 => ?_)
        · skip
          refine lv_iload_n hx hb dX10_chartFault_21 rfl (lv_at hl 4 rfl) ?_
          refine lv_if_le (tgt := 36) hx hb dX10_chartFault_22 (by decide) (fun c5 => ?_) (fun c5 => ?_)
          · skip
            refine lv_iload_n hx hb dX10_chartFault_36 rfl (lv_at hl 4 rfl) ?_
            refine lv_bipush (v := 48) hx hb dX10_chartFault_37 (by decide) ?_
            refine lv_iload hx hb dX10_chartFault_39 (lv_at hl 5 rfl) ?_
            refine lv_isub hx hb dX10_chartFault_41 ?_
            refine lv_icmp_le (tgt := 49) hx hb dX10_chartFault_42 (by decide) (fun c6 => ?_) (fun c6 => ?_)
            · skip
              refine lv_iconst (v := 0) hx hb dX10_chartFault_49 (by decide) ?_
              subst hQ
              exact W.iret (v := 0) hx hb hr (fun t ht hW => ⟨0, rfl, (by rw [cfault, if_neg hl1, if_neg (not_not_intro hl2), if_neg (not_not_intro c4), if_neg (fun q => absurd q.1 (Int32.not_lt.mpr c5)), if_neg (Int32.not_lt.mpr c6)]), ht⟩) (fun q h => absurd h List.not_mem_nil) dX10_chartFault_50
            · skip
              refine lv_iconst (v := 3) hx hb dX10_chartFault_45 (by decide) ?_
              refine lv_goto (tgt := 50) hx hb dX10_chartFault_46 (by decide) ?_
              subst hQ
              exact W.iret (v := 3) hx hb hr (fun t ht hW => ⟨3, rfl, (by rw [cfault, if_neg hl1, if_neg (not_not_intro hl2), if_neg (not_not_intro c4), if_neg (fun q => absurd q.1 (Int32.not_lt.mpr c5)), if_pos (Int32.not_le.mp c6)]), ht⟩) (fun q h => absurd h List.not_mem_nil) dX10_chartFault_50
          · skip
            refine lv_aload_n hx hb dX10_chartFault_25 rfl (lv_at hl 1 rfl) ?_
            refine lv_iload_n hx hb dX10_chartFault_26 rfl (lv_at hl 3 rfl) ?_
            refine lv_iload_n hx hb dX10_chartFault_27 rfl (lv_at hl 4 rfl) ?_
            have hPc := hP.sub (ws' := [(qs, .inr (7, [c0v, .int ln, .int le]))]) [0] rfl
            have hDc := hD.sub (ws' := [(qs, .inr (7, [c0v, .int ln, .int le]))]) [0] (by decide) rfl
            have hKc := hK.sub (tys' := []) [] rfl
            refine vp_callSi (va_Run.run (va_runV (As := [.int i, .int n]) (rest := []) ⟨hx, hb, hml, hown, hts⟩ (s_holds l dC dI  _ qs c0v ln le i n ) (cwV 2 hts gX10_chartFault_X7_holds rfl rfl rfl (by decide +kernel) ⟨Nat.le_of_ble_eq_true rfl, Nat.le_of_ble_eq_true rfl⟩) (pw_preV (va_recv hKc hPc (ci := 7) (q0 := 0) rfl rfl) hPc hKc hDc hN) rfl rfl hl.1 rfl (lv_room (Nat.le_of_ble_eq_true rfl)) dX10_chartFault_28 ⟨Nat.le_of_ble_eq_true rfl, Nat.le_of_ble_eq_true rfl⟩)) (fun r7 hr7 => ?_)
            have hr7 : r7 = if 0 ≤ i ∧ 0 ≤ n ∧ i.toInt64 + n.toInt64 ≤ le.toInt64 then 1 else 0 := hr7
            refine lv_if_ne (tgt := 36) hx hb dX10_chartFault_31 (by decide) (fun c8 => ?_) (fun c8 => ?_)
            · skip
              have c8 := (fa_bool_prop hr7).2.mp c8
              refine lv_iload_n hx hb dX10_chartFault_36 rfl (lv_at hl 4 rfl) ?_
              refine lv_bipush (v := 48) hx hb dX10_chartFault_37 (by decide) ?_
              refine lv_iload hx hb dX10_chartFault_39 (lv_at hl 5 rfl) ?_
              refine lv_isub hx hb dX10_chartFault_41 ?_
              refine lv_icmp_le (tgt := 49) hx hb dX10_chartFault_42 (by decide) (fun c9 => ?_) (fun c9 => ?_)
              · skip
                refine lv_iconst (v := 0) hx hb dX10_chartFault_49 (by decide) ?_
                subst hQ
                exact W.iret (v := 0) hx hb hr (fun t ht hW => ⟨0, rfl, (by rw [cfault, if_neg hl1, if_neg (not_not_intro hl2), if_neg (not_not_intro c4), if_neg (fun q => q.2 c8), if_neg (Int32.not_lt.mpr c9)]), ht⟩) (fun q h => absurd h List.not_mem_nil) dX10_chartFault_50
              · skip
                refine lv_iconst (v := 3) hx hb dX10_chartFault_45 (by decide) ?_
                refine lv_goto (tgt := 50) hx hb dX10_chartFault_46 (by decide) ?_
                subst hQ
                exact W.iret (v := 3) hx hb hr (fun t ht hW => ⟨3, rfl, (by rw [cfault, if_neg hl1, if_neg (not_not_intro hl2), if_neg (not_not_intro c4), if_neg (fun q => q.2 c8), if_pos (Int32.not_le.mp c9)]), ht⟩) (fun q h => absurd h List.not_mem_nil) dX10_chartFault_50
            · skip
              have c8 := (fa_bool_prop hr7).1.mp c8
              refine lv_iconst (v := 3) hx hb dX10_chartFault_34 (by decide) ?_
              subst hQ
              exact W.iret (v := 3) hx hb hr (fun t ht hW => ⟨3, rfl, (by rw [cfault, if_neg hl1, if_neg (not_not_intro hl2), if_neg (not_not_intro c4), if_pos ⟨Int32.not_le.mp c5, c8⟩]), ht⟩) (fun q h => absurd h List.not_mem_nil) dX10_chartFault_35
        · skip
          refine lv_iconst (v := 4) hx hb dX10_chartFault_19 (by decide) ?_
          subst hQ
          exact W.iret (v := 4) hx hb hr (fun t ht hW => ⟨4, rfl, (by rw [cfault, if_neg hl1, if_neg (not_not_intro hl2), if_pos c4]), ht⟩) (fun q h => absurd h List.not_mem_nil) dX10_chartFault_20
      · exact absurd c3 (by decide)
    · rw [if_neg hl2] at hr1; subst hr1
      refine lv_istore (lv' := [(5, .int 2), (0, .ref qs), (1, .int la), (2, .int i), (3, .int n), (4, .int sv)]) hx hb dX10_chartFault_5 hl (by decide) rfl (fun ls hl => ?_)
      refine lv_iload hx hb dX10_chartFault_7 (lv_at hl 0 rfl) ?_
      refine lv_if_eq (tgt := 15) hx hb dX10_chartFault_9 (by decide) (fun c10 => ?_) (fun c10 => ?_)
      · exact absurd c10 (by decide)
      · skip
        refine lv_iload hx hb dX10_chartFault_12 (lv_at hl 0 rfl) ?_
        subst hQ
        exact W.iret (v := 2) hx hb hr (fun t ht hW => ⟨2, rfl, (by rw [cfault, if_neg hl1, if_pos hl2]), ht⟩) (fun q h => absurd h List.not_mem_nil) dX10_chartFault_14
set_option maxHeartbeats 4000000 in
set_option maxRecDepth 100000 in
theorem s_hasAbove0 (l : Launch) (dC : Nat → ClassId) (dI : Nat → Nat → Nat)  (sz : Nat) (qs : Nat) (c0v : Value) (c1v : Value) (c2v : Value) (mo : Int32) (i : Int32)  : Met l yX7_hasAbove wsX7_hasAbove ({ frames := 0, cells := 0, slots := 0, locals := 0 }) (pw (dC, dI) [] [(qs, .inr (7, [c0v, c1v, c2v]))] sz [.ref qs, .int mo, .int i, .int 0]) (vp_Si (fun r => r = 0)) 0 0 (fun _ => False) := by
  refine pw_met (cc := cX7_hasAbove) (maxL := 5) (ret := (some .boolean)) (by decide) rfl (Nat.le_of_ble_eq_true rfl) ?_
  intro p e s m below meth c0 hx hb hr hml hown hlocks hnm hts hP hK hD hN hsz hA hS ls hl
  have hl : lv_has ls 5 [(0, .ref qs), (1, .int mo), (2, .int i), (3, .int 0)] := hl
  generalize hQ : MQ _ _ _ _ _ _ _ = Q
  refine lv_iconst (v := 0) hx hb dX7_hasAbove_0 (by decide) ?_
  refine lv_istore (lv' := [(4, .int 0), (0, .ref qs), (1, .int mo), (2, .int i), (3, .int 0)]) hx hb dX7_hasAbove_1 hl (by decide) rfl (fun ls hl => ?_)
  refine lv_iload hx hb dX7_hasAbove_3 (lv_at hl 0 rfl) ?_
  refine lv_iload_n hx hb dX7_hasAbove_5 rfl (lv_at hl 4 rfl) ?_
  refine lv_icmp_ge (tgt := 30) hx hb dX7_hasAbove_6 (by decide) (fun c1 => ?_) (fun c1 => ?_)
  · skip
    refine lv_iconst (v := 0) hx hb dX7_hasAbove_30 (by decide) ?_
    subst hQ
    exact W.zret (v := 0) hx hb hr rfl (fun t ht hW => ⟨0, rfl, rfl, ht⟩) (fun q h => absurd h List.not_mem_nil) dX7_hasAbove_31
  · exact absurd c1 (by decide)
