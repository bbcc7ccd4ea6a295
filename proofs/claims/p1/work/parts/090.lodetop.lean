def fnl (n : Nat) (lo : Int32) : Nat → Int32 := upd (fun _ => 0) n lo
def fnh (n : Nat) (hi : Int32) : Nat → Int32 := upd (fun _ => 1000) n hi
theorem fnl_eq {lo : Int32} (h : 0 ≤ lo) (n j : Nat) : upd (fun _ => (0 : Int32)) n (if (0 : Int32) < lo then lo else 0) j = fnl n lo j := by
  unfold fnl
  by_cases h0 : (0 : Int32) < lo
  · rw [if_pos h0]
  · rw [if_neg h0, Int32.le_antisymm (Int32.not_lt.mp h0) h]
theorem fnh_eq {hi : Int32} (h : hi ≤ 1000) (n j : Nat) : upd (fun _ => (1000 : Int32)) n (if hi < (1000 : Int32) then hi else 1000) j = fnh n hi j := by
  unfold fnh
  by_cases h0 : hi < (1000 : Int32)
  · rw [if_pos h0]
  · rw [if_neg h0, Int32.le_antisymm h (Int32.not_lt.mp h0)]
theorem fnl_rng {lo : Int32} (h : 0 ≤ lo ∧ lo ≤ 1000) (n j : Nat) : 0 ≤ (fnl n lo j).toInt ∧ (fnl n lo j).toInt ≤ 1000 := by
  have a := (fa_le _ _).mp h.1
  have b := (fa_le _ _).mp h.2
  unfold fnl upd
  split
  · exact ⟨a, b⟩
  · exact (show 0 ≤ (0 : Int32).toInt ∧ (0 : Int32).toInt ≤ 1000 by decide)
theorem fnh_rng {lo : Int32} (h : 0 ≤ lo ∧ lo ≤ 1000) (n j : Nat) : 0 ≤ (fnh n lo j).toInt ∧ (fnh n lo j).toInt ≤ 1000 := by
  have a := (fa_le _ _).mp h.1
  have b := (fa_le _ _).mp h.2
  unfold fnh upd
  split
  · exact ⟨a, b⟩
  · exact (show 0 ≤ (1000 : Int32).toInt ∧ (1000 : Int32).toInt ≤ 1000 by decide)
theorem sub_small {a d : Int32} (h : 0 ≤ a.toInt ∧ a.toInt ≤ 1000) (h2 : 0 ≤ d.toInt ∧ d.toInt ≤ 1000) : (a - d).toInt = a.toInt - d.toInt := by
  rw [Int32.toInt_sub]
  apply Int.bmod_eq_of_le <;> omega
theorem add_small {a d : Int32} (h : 0 ≤ a.toInt ∧ a.toInt ≤ 1000) (h2 : 0 ≤ d.toInt ∧ d.toInt ≤ 1000) : (a + d).toInt = a.toInt + d.toInt := by
  rw [Int32.toInt_add]
  apply Int.bmod_eq_of_le <;> omega
theorem fn_na {n : Nat} {lo hi : Int32} (h1 : 0 ≤ lo ∧ lo ≤ 1000) (h2 : 0 ≤ hi ∧ hi ≤ 1000) : ∀ i j : Nat, i < 48 → j < 48 → ¬ fnl n lo i < fnl n lo j - 1000 ∧ ¬ fnh n hi j + 1000 < fnh n hi i := by
  intro i j _ _
  have a := fnl_rng h1 n i
  have b := fnl_rng h1 n j
  have c := fnh_rng h2 n i
  have d := fnh_rng h2 n j
  have k : (0 : Int) ≤ (1000 : Int32).toInt ∧ (1000 : Int32).toInt ≤ 1000 := by decide
  have k2 : (1000 : Int32).toInt = 1000 := by decide
  refine ⟨fun q => ?_, fun q => ?_⟩
  · have q := (fa_lt _ _).mp q
    rw [sub_small b k] at q
    omega
  · have q := (fa_lt _ _).mp q
    rw [add_small d k] at q
    omega
theorem fn_ok {n : Nat} {lo hi : Int32} (h1 : 0 ≤ lo ∧ lo ≤ 1000) (h2 : 0 ≤ hi ∧ hi ≤ 1000) (h3 : lo ≤ hi) : ∀ j : Nat, j < 48 → ¬ fnh n hi j < fnl n lo j := by
  intro j _
  have e3 := (fa_le _ _).mp h3
  refine fun q => ?_
  have q := (fa_lt _ _).mp q
  unfold fnh fnl upd at q
  by_cases hj : j = n
  · rw [if_pos hj, if_pos hj] at q; omega
  · rw [if_neg hj, if_neg hj] at q; exact absurd (show (1000 : Int32).toInt < (0 : Int32).toInt from q) (by decide)
theorem rs_na {d : Int32} (h : 0 ≤ d ∧ d ≤ 1000) : ∀ i j : Nat, i < 48 → j < 48 → ¬ (fun _ : Nat => (0 : Int32)) i < (fun _ : Nat => (0 : Int32)) j - d ∧ ¬ (fun _ : Nat => (1000 : Int32)) j + d < (fun _ : Nat => (1000 : Int32)) i := by
  intro i j _ _
  show ¬ (0 : Int32) < 0 - d ∧ ¬ (1000 : Int32) + d < 1000
  have k : (0 : Int) ≤ d.toInt ∧ d.toInt ≤ 1000 := ⟨(fa_le _ _).mp h.1, (fa_le _ _).mp h.2⟩
  have z0 : (0 : Int32).toInt = 0 := by decide
  have z1 : (1000 : Int32).toInt = 1000 := by decide
  refine ⟨fun q => ?_, fun q => ?_⟩
  · have q := (fa_lt _ _).mp q
    rw [sub_small ⟨by decide, by decide⟩ k] at q
    omega
  · have q := (fa_lt _ _).mp q
    rw [add_small ⟨by decide, by decide⟩ k] at q
    omega
theorem rs_ok : ∀ j : Nat, j < 48 → ¬ (fun _ : Nat => (1000 : Int32)) j < (fun _ : Nat => (0 : Int32)) j := fun _ _ => (show ¬ (1000 : Int32) < 0 by decide)
def sp_find (x y lo hi : Int32) : Int32 := if (0 ≤ x ∧ x ≤ 7) ∧ (0 ≤ y ∧ y ≤ 5) then (if 0 ≤ lo ∧ lo ≤ 1000 then (if 0 ≤ hi ∧ hi ≤ 1000 then (if lo ≤ hi then nI (fa_cnt (chg (fun _ => 0) (fun _ => 1000) (fnl (8 * y + x).toNatClampNeg lo) (fnh (8 * y + x).toNatClampNeg hi)) 48) else -2) else -2) else -2) else -1
def sp_rise (d : Int32) : Int32 := if 0 ≤ d ∧ d ≤ 1000 then nI (fa_cnt (chg (fun _ => 0) (fun _ => 1000) (fun _ => 0) (fun _ => 1000)) 48) else -2
def sp_good (x y w : Int32) : Int32 := if (0 ≤ x ∧ x ≤ 7) ∧ (0 ≤ y ∧ y ≤ 5) then (if 0 ≤ w ∧ w ≤ 1 then (if w = 0 then 0 else 1000) else -2) else -1
def sp_pitch (x y xx yy t : Int32) : Int32 := if (0 ≤ x ∧ x ≤ 7) ∧ (0 ≤ y ∧ y ≤ 5) then (if (0 ≤ xx ∧ xx ≤ 7) ∧ (0 ≤ yy ∧ yy ≤ 5) then (if xx < x then -2 else if yy < y then -2 else if 1 ≤ t ∧ t ≤ 100 then 0 else -2) else -1) else -1
set_option maxHeartbeats 4000000 in
set_option maxRecDepth 100000 in
theorem c_X10_find (l : Launch) (dC : Nat → ClassId) (dI : Nat → Nat → Nat) (cI : ClassId) (sz : Nat) (qx : Nat) (x1 : Value) (x2 : Value) (x3 : Value) (x4 : Value) (x5 : Value) (x6 : Value) (x7 : Value) (x8 : Value) (x9 : Value) (x10 : Value) (x11 : Value) (x12 : Value) (ql : Nat) (lw : Nat) (hg : Nat) (tl : Nat) (th : Nat) (x : Int32) (y : Int32) (lo : Int32) (hi : Int32) (gl : Nat → Int32) (gh : Nat → Int32)  : Met l yX10_find wsX10_find ({ frames := 5, cells := 0, slots := 0, locals := 150 }) (pw (dC, dI) [(cI, .int)] [(qx, .inr (10, [.ref ql, x1, x2, x3, x4, x5, x6, x7, x8, x9, x10, x11, x12])), (ql, .inr (3, [.ref lw, .ref hg, .ref tl, .ref th, .int 1000])), (lw, .inl (cI, 48, .inl (fun _ => 0))), (hg, .inl (cI, 48, .inl (fun _ => 1000))), (tl, .inl (cI, 48, .inl gl)), (th, .inl (cI, 48, .inl gh))] sz [.ref qx, .int x, .int y, .int lo, .int hi]) (va_Qi (fun r (_ : Unit) => r = sp_find x y lo hi) (fun _ _ => True) (va_A [(qx, .inr (10, [.ref ql, x1, x2, x3, x4, x5, x6, x7, x8, x9, x10, x11, x12])), (ql, .inr (3, [.ref lw, .ref hg, .ref tl, .ref th, .int 1000])), (lw, .inl (cI, 48, .inl (fun _ => 0))), (hg, .inl (cI, 48, .inl (fun _ => 1000))), (tl, .inl (cI, 48, .inl gl)), (th, .inl (cI, 48, .inl gh))] sz)) 0 0 (va_A [(qx, .inr (10, [.ref ql, x1, x2, x3, x4, x5, x6, x7, x8, x9, x10, x11, x12])), (ql, .inr (3, [.ref lw, .ref hg, .ref tl, .ref th, .int 1000])), (lw, .inl (cI, 48, .inl (fun _ => 0))), (hg, .inl (cI, 48, .inl (fun _ => 1000))), (tl, .inl (cI, 48, .inl gl)), (th, .inl (cI, 48, .inl gh))] sz) := by
  refine pw_met (cc := cX10_find) (maxL := 5) (ret := (some .int)) (by decide) rfl (Nat.le_of_ble_eq_true rfl) ?_
  intro p e s m below meth c0 hx hb hr hml hown hlocks hnm hts hP hK hD hN hsz hA hS ls hl
  subst hsz
  have hl : lv_has ls 5 [(0, .ref qx), (1, .int x), (2, .int y), (3, .int lo), (4, .int hi)] := hl
  have hiX10 : ∀ w ∈ wsX100, w ∈ wsX10_find := by decide +kernel
  have hiX3 : ∀ w ∈ wsX30, w ∈ wsX10_find := by decide +kernel
  refine lv_iload_n hx hb dX10_find_0 rfl (lv_at hl 1 rfl) ?_
  refine lv_iload_n hx hb dX10_find_1 rfl (lv_at hl 2 rfl) ?_
  refine vp_callSi (va_Run.run (va_runS (As := [.int x, .int y]) (rest := []) ⟨hx, hb, hml, hown, hts⟩ (c_X3_hasSquare l x y ) (va_cwS 2 hts gX10_find_X3_hasSquare rfl rfl rfl (by decide +kernel) ⟨Nat.le_of_ble_eq_true rfl, Nat.le_of_ble_eq_true rfl⟩) (p0_preS hN) rfl rfl hl.1 rfl (lv_room (Nat.le_of_ble_eq_true rfl)) dX10_find_2 ⟨Nat.le_of_ble_eq_true rfl, Nat.le_of_ble_eq_true rfl⟩)) (fun r1 hr1 => ?_)
  have hr1 : r1 = if (0 ≤ x ∧ x ≤ 7) ∧ (0 ≤ y ∧ y ≤ 5) then 1 else 0 := hr1
  refine lv_if_ne (tgt := 10) hx hb dX10_find_5 (by decide) (fun c2 => ?_) (fun c2 => ?_)
  · skip
    have c2 := (fa_bool_prop hr1).2.mp c2
    refine lv_iload_n hx hb dX10_find_10 rfl (lv_at hl 3 rfl) ?_
    refine lv_iconst (v := 0) hx hb dX10_find_11 (by decide) ?_
    refine lv_sipush (v := 1000) hx hb dX10_find_12 (by decide) ?_
    refine vp_callSi (va_Run.run (va_runS (As := [.int lo, .int 0, .int 1000]) (rest := []) ⟨hx, hb, hml, hown, hts⟩ (c_X10_isWithin l lo 0 1000 ) (va_cwS 3 hts gX10_find_X10_isWithin rfl rfl rfl (by decide +kernel) ⟨Nat.le_of_ble_eq_true rfl, Nat.le_of_ble_eq_true rfl⟩) (p0_preS hN) rfl rfl hl.1 rfl (lv_room (Nat.le_of_ble_eq_true rfl)) dX10_find_15 ⟨Nat.le_of_ble_eq_true rfl, Nat.le_of_ble_eq_true rfl⟩)) (fun r3 hr3 => ?_)
    have hr3 : r3 = if 0 ≤ lo ∧ lo ≤ 1000 then 1 else 0 := hr3
    refine lv_if_eq (tgt := 39) hx hb dX10_find_18 (by decide) (fun c4 => ?_) (fun c4 => ?_)
    · skip
      have c4 := (fa_bool_prop hr3).1.mp c4
      refine lv_bipush (v := (-2)) hx hb dX10_find_39 (by decide) ?_
      exact W.iret (v := (-2)) hx hb hr (fun t ht hW => ⟨⟨(-2), (), rfl, (by rw [sp_find, if_pos c2, if_neg c4]), trivial⟩, hS.F ht⟩) hS.2.2 dX10_find_41
    · skip
      have c4 := (fa_bool_prop hr3).2.mp c4
      refine lv_iload hx hb dX10_find_21 (lv_at hl 4 rfl) ?_
      refine lv_iconst (v := 0) hx hb dX10_find_23 (by decide) ?_
      refine lv_sipush (v := 1000) hx hb dX10_find_24 (by decide) ?_
      refine vp_callSi (va_Run.run (va_runS (As := [.int hi, .int 0, .int 1000]) (rest := []) ⟨hx, hb, hml, hown, hts⟩ (c_X10_isWithin l hi 0 1000 ) (va_cwS 3 hts gX10_find_X10_isWithin rfl rfl rfl (by decide +kernel) ⟨Nat.le_of_ble_eq_true rfl, Nat.le_of_ble_eq_true rfl⟩) (p0_preS hN) rfl rfl hl.1 rfl (lv_room (Nat.le_of_ble_eq_true rfl)) dX10_find_27 ⟨Nat.le_of_ble_eq_true rfl, Nat.le_of_ble_eq_true rfl⟩)) (fun r5 hr5 => ?_)
      have hr5 : r5 = if 0 ≤ hi ∧ hi ≤ 1000 then 1 else 0 := hr5
      refine lv_if_eq (tgt := 39) hx hb dX10_find_30 (by decide) (fun c6 => ?_) (fun c6 => ?_)
      · skip
        have c6 := (fa_bool_prop hr5).1.mp c6
        refine lv_bipush (v := (-2)) hx hb dX10_find_39 (by decide) ?_
        exact W.iret (v := (-2)) hx hb hr (fun t ht hW => ⟨⟨(-2), (), rfl, (by rw [sp_find, if_pos c2, if_pos c4, if_neg c6]), trivial⟩, hS.F ht⟩) hS.2.2 dX10_find_41
      · skip
        have c6 := (fa_bool_prop hr5).2.mp c6
        refine lv_iload_n hx hb dX10_find_33 rfl (lv_at hl 3 rfl) ?_
        refine lv_iload hx hb dX10_find_34 (lv_at hl 4 rfl) ?_
        refine lv_icmp_le (tgt := 42) hx hb dX10_find_36 (by decide) (fun c7 => ?_) (fun c7 => ?_)
        · skip
          refine lv_aload_n hx hb dX10_find_42 rfl (lv_at hl 0 rfl) ?_
          refine va_get (D := (dC, dI)) (ci := 10) (v := .ref ql) (C := RX10) (T := TX10) (N := 13) hx hb hts hiX10 hown hK hP 0 rfl rfl 0 (by decide) (hts (.fieldLink RX10 12 "TributePitches" "lode" "LTributePitches$Lode;") (by decide +kernel)) (fun _ h9 => h9) rfl dX10_find_43 ?_
          have hPc := hP.sub (ws' := [(ql, .inr (3, [.ref lw, .ref hg, .ref tl, .ref th, .int 1000])), (lw, .inl (cI, 48, .inl (fun _ => 0))), (hg, .inl (cI, 48, .inl (fun _ => 1000))), (tl, .inl (cI, 48, .inl gl)), (th, .inl (cI, 48, .inl gh))]) [1, 2, 3, 4, 5] rfl
          have hDc := hD.sub (ws' := [(ql, .inr (3, [.ref lw, .ref hg, .ref tl, .ref th, .int 1000])), (lw, .inl (cI, 48, .inl (fun _ => 0))), (hg, .inl (cI, 48, .inl (fun _ => 1000))), (tl, .inl (cI, 48, .inl gl)), (th, .inl (cI, 48, .inl gh))]) [1, 2, 3, 4, 5] (by decide) rfl
          have hKc := hK.sub (tys' := [(cI, .int)]) [0] rfl
          have hFc := va_free (wc := [(ql, .inr (3, [.ref lw, .ref hg, .ref tl, .ref th, .int 1000])), (lw, .inl (cI, 48, .inl (fun _ => 0))), (hg, .inl (cI, 48, .inl (fun _ => 1000))), (tl, .inl (cI, 48, .inl gl)), (th, .inl (cI, 48, .inl gh))]) hD hS hA [1, 2, 3, 4, 5] rfl
          refine va_callv (va_runV (As := []) (rest := []) ⟨hx, hb, hml, hown, hts⟩ (c_X3_beginTrial l dC dI cI _ ql lw hg tl th 1000 (fun _ => 0) (fun _ => 1000) gl gh ) (cwV 0 hts gX10_find_X3_beginTrial rfl rfl rfl (by decide +kernel) ⟨Nat.le_of_ble_eq_true rfl, Nat.le_of_ble_eq_true rfl⟩) (pw_preV (va_recv hKc hPc (ci := 3) (q0 := 0) rfl rfl) hPc hKc hDc hN) rfl rfl hl.1 rfl (lv_room (Nat.le_of_ble_eq_true rfl)) dX10_find_46 ⟨Nat.le_of_ble_eq_true rfl, Nat.le_of_ble_eq_true rfl⟩) hS (fun q _ h => hFc q h) hFc (fun u t H1 locs ht hvm hw hB hz1 hk1 hS => ?_)
          obtain ⟨hP1, hK1, hD1⟩ := hB
          rw [ht] at hP1
          obtain ⟨hP, hD⟩ := va_join (wr := [(qx, .inr (10, [.ref ql, x1, x2, x3, x4, x5, x6, x7, x8, x9, x10, x11, x12]))]) (w1 := [(ql, .inr (3, [.ref lw, .ref hg, .ref tl, .ref th, .int 1000])), (lw, .inl (cI, 48, .inl (fun _ => 0))), (hg, .inl (cI, 48, .inl (fun _ => 1000))), (tl, .inl (cI, 48, .inl (fun _ => 0))), (th, .inl (cI, 48, .inl (fun _ => 1000)))]) hP hD [1, 2, 3, 4, 5] [0] rfl rfl (by decide) (by decide) hk1 hFc hP1 hD1
          generalize H1 = H at hP hS ⊢
          have hP : va_P (dC, dI) vwCl [(qx, .inr (10, [.ref ql, x1, x2, x3, x4, x5, x6, x7, x8, x9, x10, x11, x12])), (ql, .inr (3, [.ref lw, .ref hg, .ref tl, .ref th, .int 1000])), (lw, .inl (cI, 48, .inl (fun _ => 0))), (hg, .inl (cI, 48, .inl (fun _ => 1000))), (tl, .inl (cI, 48, .inl (fun _ => 0))), (th, .inl (cI, 48, .inl (fun _ => 1000)))] H := hP
          have hD : va_D _ [(qx, .inr (10, [.ref ql, x1, x2, x3, x4, x5, x6, x7, x8, x9, x10, x11, x12])), (ql, .inr (3, [.ref lw, .ref hg, .ref tl, .ref th, .int 1000])), (lw, .inl (cI, 48, .inl (fun _ => 0))), (hg, .inl (cI, 48, .inl (fun _ => 1000))), (tl, .inl (cI, 48, .inl (fun _ => 0))), (th, .inl (cI, 48, .inl (fun _ => 1000)))] := hD
          refine lv_aload_n hx hb dX10_find_49 rfl (lv_at hl 0 rfl) ?_
          refine va_get (D := (dC, dI)) (ci := 10) (v := .ref ql) (C := RX10) (T := TX10) (N := 13) hx hb hts hiX10 hown hK hP 0 rfl rfl 0 (by decide) (hts (.fieldLink RX10 12 "TributePitches" "lode" "LTributePitches$Lode;") (by decide +kernel)) (fun _ h9 => h9) rfl dX10_find_50 ?_
          refine lv_iload_n hx hb dX10_find_53 rfl (lv_at hl 1 rfl) ?_
          refine lv_iload_n hx hb dX10_find_54 rfl (lv_at hl 2 rfl) ?_
          refine vp_callSi (va_Run.run (va_runS (As := [.int x, .int y]) (rest := [.ref ql]) ⟨hx, hb, hml, hown, hts⟩ (c_X3_numberOf l x y ) (va_cwS 2 hts gX10_find_X3_numberOf rfl rfl rfl (by decide +kernel) ⟨Nat.le_of_ble_eq_true rfl, Nat.le_of_ble_eq_true rfl⟩) (p0_preS hN) rfl rfl hl.1 rfl (lv_room (Nat.le_of_ble_eq_true rfl)) dX10_find_55 ⟨Nat.le_of_ble_eq_true rfl, Nat.le_of_ble_eq_true rfl⟩)) (fun r9 hr9 => ?_)
          have hr9 : r9 = 8 * y + x := hr9
          subst hr9
          refine lv_iload_n hx hb dX10_find_58 rfl (lv_at hl 3 rfl) ?_
          refine lv_iload hx hb dX10_find_59 (lv_at hl 4 rfl) ?_
          have hPc := hP.sub (ws' := [(ql, .inr (3, [.ref lw, .ref hg, .ref tl, .ref th, .int 1000])), (tl, .inl (cI, 48, .inl (fun _ => 0))), (th, .inl (cI, 48, .inl (fun _ => 1000)))]) [1, 4, 5] rfl
          have hDc := hD.sub (ws' := [(ql, .inr (3, [.ref lw, .ref hg, .ref tl, .ref th, .int 1000])), (tl, .inl (cI, 48, .inl (fun _ => 0))), (th, .inl (cI, 48, .inl (fun _ => 1000)))]) [1, 4, 5] (by decide) rfl
          have hKc := hK.sub (tys' := [(cI, .int)]) [0] rfl
          have hFc := va_free (wc := [(ql, .inr (3, [.ref lw, .ref hg, .ref tl, .ref th, .int 1000])), (tl, .inl (cI, 48, .inl (fun _ => 0))), (th, .inl (cI, 48, .inl (fun _ => 1000)))]) hD hS hA [1, 4, 5] rfl
          refine va_callv (va_runV (As := [.int (8 * y + x), .int lo, .int hi]) (rest := []) ⟨hx, hb, hml, hown, hts⟩ (c_X3_tryCommon l dC dI cI _ ql tl th (.ref lw) (.ref hg) (.int 1000) (8 * y + x) lo hi (fun _ => 0) (fun _ => 1000) (sq_in c2)) (cwV 3 hts gX10_find_X3_tryCommon rfl rfl rfl (by decide +kernel) ⟨Nat.le_of_ble_eq_true rfl, Nat.le_of_ble_eq_true rfl⟩) (pw_preV (va_recv hKc hPc (ci := 3) (q0 := 0) rfl rfl) hPc hKc hDc hN) rfl rfl hl.1 rfl (lv_room (Nat.le_of_ble_eq_true rfl)) dX10_find_61 ⟨Nat.le_of_ble_eq_true rfl, Nat.le_of_ble_eq_true rfl⟩) hS (fun q _ h => hFc q h) hFc (fun u t H1 locs ht hvm hw hB hz1 hk1 hS => ?_)
          obtain ⟨hP1, hK1, hD1⟩ := hB
          rw [ht] at hP1
          obtain ⟨hP, hD⟩ := va_join (wr := [(qx, .inr (10, [.ref ql, x1, x2, x3, x4, x5, x6, x7, x8, x9, x10, x11, x12])), (lw, .inl (cI, 48, .inl (fun _ => 0))), (hg, .inl (cI, 48, .inl (fun _ => 1000)))]) (w1 := [(ql, .inr (3, [.ref lw, .ref hg, .ref tl, .ref th, .int 1000])), (tl, .inl (cI, 48, .inl (upd (fun _ => 0) ((8 * y + x)).toNatClampNeg (if ((fun _ => 0) ((8 * y + x)).toNatClampNeg) < lo then lo else ((fun _ => 0) ((8 * y + x)).toNatClampNeg))))), (th, .inl (cI, 48, .inl (upd (fun _ => 1000) ((8 * y + x)).toNatClampNeg (if hi < ((fun _ => 1000) ((8 * y + x)).toNatClampNeg) then hi else ((fun _ => 1000) ((8 * y + x)).toNatClampNeg)))))]) hP hD [1, 4, 5] [0, 2, 3] rfl rfl (by decide) (by decide) hk1 hFc hP1 hD1
          generalize H1 = H at hP hS ⊢
          have hP : va_P (dC, dI) vwCl [(qx, .inr (10, [.ref ql, x1, x2, x3, x4, x5, x6, x7, x8, x9, x10, x11, x12])), (lw, .inl (cI, 48, .inl (fun _ => 0))), (hg, .inl (cI, 48, .inl (fun _ => 1000))), (ql, .inr (3, [.ref lw, .ref hg, .ref tl, .ref th, .int 1000])), (tl, .inl (cI, 48, .inl (upd (fun _ => 0) ((8 * y + x)).toNatClampNeg (if ((fun _ => 0) ((8 * y + x)).toNatClampNeg) < lo then lo else ((fun _ => 0) ((8 * y + x)).toNatClampNeg))))), (th, .inl (cI, 48, .inl (upd (fun _ => 1000) ((8 * y + x)).toNatClampNeg (if hi < ((fun _ => 1000) ((8 * y + x)).toNatClampNeg) then hi else ((fun _ => 1000) ((8 * y + x)).toNatClampNeg)))))] H := hP
          have hD : va_D _ [(qx, .inr (10, [.ref ql, x1, x2, x3, x4, x5, x6, x7, x8, x9, x10, x11, x12])), (lw, .inl (cI, 48, .inl (fun _ => 0))), (hg, .inl (cI, 48, .inl (fun _ => 1000))), (ql, .inr (3, [.ref lw, .ref hg, .ref tl, .ref th, .int 1000])), (tl, .inl (cI, 48, .inl (upd (fun _ => 0) ((8 * y + x)).toNatClampNeg (if ((fun _ => 0) ((8 * y + x)).toNatClampNeg) < lo then lo else ((fun _ => 0) ((8 * y + x)).toNatClampNeg))))), (th, .inl (cI, 48, .inl (upd (fun _ => 1000) ((8 * y + x)).toNatClampNeg (if hi < ((fun _ => 1000) ((8 * y + x)).toNatClampNeg) then hi else ((fun _ => 1000) ((8 * y + x)).toNatClampNeg)))))] := hD
          have hP := va_P_cg hP 4 (fnl (8 * y + x).toNatClampNeg lo) rfl (fun j _ => fnl_eq c4.1 _ j)
          have hD := va_D_cg hD 4 (fnl (8 * y + x).toNatClampNeg lo) rfl
          have hP : va_P (dC, dI) vwCl [(qx, .inr (10, [.ref ql, x1, x2, x3, x4, x5, x6, x7, x8, x9, x10, x11, x12])), (lw, .inl (cI, 48, .inl (fun _ => 0))), (hg, .inl (cI, 48, .inl (fun _ => 1000))), (ql, .inr (3, [.ref lw, .ref hg, .ref tl, .ref th, .int 1000])), (tl, .inl (cI, 48, .inl (fnl (8 * y + x).toNatClampNeg lo))), (th, .inl (cI, 48, .inl (upd (fun _ => 1000) ((8 * y + x)).toNatClampNeg (if hi < ((fun _ => 1000) ((8 * y + x)).toNatClampNeg) then hi else ((fun _ => 1000) ((8 * y + x)).toNatClampNeg)))))] H := hP
          have hD : va_D _ [(qx, .inr (10, [.ref ql, x1, x2, x3, x4, x5, x6, x7, x8, x9, x10, x11, x12])), (lw, .inl (cI, 48, .inl (fun _ => 0))), (hg, .inl (cI, 48, .inl (fun _ => 1000))), (ql, .inr (3, [.ref lw, .ref hg, .ref tl, .ref th, .int 1000])), (tl, .inl (cI, 48, .inl (fnl (8 * y + x).toNatClampNeg lo))), (th, .inl (cI, 48, .inl (upd (fun _ => 1000) ((8 * y + x)).toNatClampNeg (if hi < ((fun _ => 1000) ((8 * y + x)).toNatClampNeg) then hi else ((fun _ => 1000) ((8 * y + x)).toNatClampNeg)))))] := hD
          have hP := va_P_cg hP 5 (fnh (8 * y + x).toNatClampNeg hi) rfl (fun j _ => fnh_eq c6.2 _ j)
          have hD := va_D_cg hD 5 (fnh (8 * y + x).toNatClampNeg hi) rfl
          have hP : va_P (dC, dI) vwCl [(qx, .inr (10, [.ref ql, x1, x2, x3, x4, x5, x6, x7, x8, x9, x10, x11, x12])), (lw, .inl (cI, 48, .inl (fun _ => 0))), (hg, .inl (cI, 48, .inl (fun _ => 1000))), (ql, .inr (3, [.ref lw, .ref hg, .ref tl, .ref th, .int 1000])), (tl, .inl (cI, 48, .inl (fnl (8 * y + x).toNatClampNeg lo))), (th, .inl (cI, 48, .inl (fnh (8 * y + x).toNatClampNeg hi)))] H := hP
          have hD : va_D _ [(qx, .inr (10, [.ref ql, x1, x2, x3, x4, x5, x6, x7, x8, x9, x10, x11, x12])), (lw, .inl (cI, 48, .inl (fun _ => 0))), (hg, .inl (cI, 48, .inl (fun _ => 1000))), (ql, .inr (3, [.ref lw, .ref hg, .ref tl, .ref th, .int 1000])), (tl, .inl (cI, 48, .inl (fnl (8 * y + x).toNatClampNeg lo))), (th, .inl (cI, 48, .inl (fnh (8 * y + x).toNatClampNeg hi)))] := hD
          refine lv_aload_n hx hb dX10_find_64 rfl (lv_at hl 0 rfl) ?_
          refine va_get (D := (dC, dI)) (ci := 10) (v := .ref ql) (C := RX10) (T := TX10) (N := 13) hx hb hts hiX10 hown hK hP 0 rfl rfl 0 (by decide) (hts (.fieldLink RX10 12 "TributePitches" "lode" "LTributePitches$Lode;") (by decide +kernel)) (fun _ h9 => h9) rfl dX10_find_65 ?_
          refine lv_aload_n hx hb dX10_find_68 rfl (lv_at hl 0 rfl) ?_
          refine va_get (D := (dC, dI)) (ci := 10) (v := .ref ql) (C := RX10) (T := TX10) (N := 13) hx hb hts hiX10 hown hK hP 0 rfl rfl 0 (by decide) (hts (.fieldLink RX10 12 "TributePitches" "lode" "LTributePitches$Lode;") (by decide +kernel)) (fun _ h9 => h9) rfl dX10_find_69 ?_
          refine va_get (D := (dC, dI)) (ci := 3) (v := .int 1000) (C := RX3) (T := TX3) (N := 5) hx hb hts hiX3 hown hK hP 3 rfl rfl 4 (by decide) (hts (.fieldLink RX10 79 "TributePitches$Lode" "law" "I") (by decide +kernel)) (fun _ h9 => h9) rfl dX10_find_72 ?_
          have hPc := hP.sub (ws' := [(ql, .inr (3, [.ref lw, .ref hg, .ref tl, .ref th, .int 1000])), (lw, .inl (cI, 48, .inl (fun _ => 0))), (hg, .inl (cI, 48, .inl (fun _ => 1000))), (tl, .inl (cI, 48, .inl (fnl (8 * y + x).toNatClampNeg lo))), (th, .inl (cI, 48, .inl (fnh (8 * y + x).toNatClampNeg hi)))]) [3, 1, 2, 4, 5] rfl
          have hDc := hD.sub (ws' := [(ql, .inr (3, [.ref lw, .ref hg, .ref tl, .ref th, .int 1000])), (lw, .inl (cI, 48, .inl (fun _ => 0))), (hg, .inl (cI, 48, .inl (fun _ => 1000))), (tl, .inl (cI, 48, .inl (fnl (8 * y + x).toNatClampNeg lo))), (th, .inl (cI, 48, .inl (fnh (8 * y + x).toNatClampNeg hi)))]) [3, 1, 2, 4, 5] (by decide) rfl
          have hKc := hK.sub (tys' := [(cI, .int)]) [0] rfl
          have hFc := va_free (wc := [(ql, .inr (3, [.ref lw, .ref hg, .ref tl, .ref th, .int 1000])), (lw, .inl (cI, 48, .inl (fun _ => 0))), (hg, .inl (cI, 48, .inl (fun _ => 1000))), (tl, .inl (cI, 48, .inl (fnl (8 * y + x).toNatClampNeg lo))), (th, .inl (cI, 48, .inl (fnh (8 * y + x).toNatClampNeg hi)))]) hD hS hA [3, 1, 2, 4, 5] rfl
          refine va_calli (va_runV (As := [.int 1000]) (rest := []) ⟨hx, hb, hml, hown, hts⟩ (c_X3_endTrial l dC dI cI _ ql lw hg tl th 1000 1000 (fun _ => 0) (fun _ => 1000) (fnl (8 * y + x).toNatClampNeg lo) (fnh (8 * y + x).toNatClampNeg hi) (fn_na c4 c6) (fn_ok c4 c6 c7)) (cwV 1 hts gX10_find_X3_endTrial rfl rfl rfl (by decide +kernel) ⟨Nat.le_of_ble_eq_true rfl, Nat.le_of_ble_eq_true rfl⟩) (pw_preV (va_recv hKc hPc (ci := 3) (q0 := 0) rfl rfl) hPc hKc hDc hN) rfl rfl hl.1 rfl (lv_room (Nat.le_of_ble_eq_true rfl)) dX10_find_75 ⟨Nat.le_of_ble_eq_true rfl, Nat.le_of_ble_eq_true rfl⟩) hS (fun q _ h => hFc q h) hFc (fun r11 u t H1 locs ht hvm hw hB hz1 hk1 hS => ?_)
          have hr11 : r11 = nI (fa_cnt (chg (fun _ => 0) (fun _ => 1000) (fnl (8 * y + x).toNatClampNeg lo) (fnh (8 * y + x).toNatClampNeg hi)) 48) := hw
          have hP1 : va_P (dC, dI) vwCl [] H1 := fun k q h => by simp at h
          have hD1 : va_D (va_A [(ql, .inr (3, [.ref lw, .ref hg, .ref tl, .ref th, .int 1000])), (lw, .inl (cI, 48, .inl (fun _ => 0))), (hg, .inl (cI, 48, .inl (fun _ => 1000))), (tl, .inl (cI, 48, .inl (fnl (8 * y + x).toNatClampNeg lo))), (th, .inl (cI, 48, .inl (fnh (8 * y + x).toNatClampNeg hi)))] H.size) ([] : va_W) := ⟨fun i j p q h => by simp at h, fun k q h => by simp at h⟩
          obtain ⟨hP, hD⟩ := va_join (wr := [(qx, .inr (10, [.ref ql, x1, x2, x3, x4, x5, x6, x7, x8, x9, x10, x11, x12]))]) (w1 := []) hP hD [3, 1, 2, 4, 5] [0] rfl rfl (by decide) (by decide) hk1 hFc hP1 hD1
          generalize H1 = H at hP hS ⊢
          have hP : va_P (dC, dI) vwCl [(qx, .inr (10, [.ref ql, x1, x2, x3, x4, x5, x6, x7, x8, x9, x10, x11, x12]))] H := hP
          have hD : va_D _ [(qx, .inr (10, [.ref ql, x1, x2, x3, x4, x5, x6, x7, x8, x9, x10, x11, x12]))] := hD
          exact W.iret (v := r11) hx hb hr (fun t ht hW => ⟨⟨r11, (), rfl, (by rw [sp_find, if_pos c2, if_pos c4, if_pos c6, if_pos c7]; exact hr11), trivial⟩, hS.F ht⟩) hS.2.2 dX10_find_78
        · skip
          refine lv_bipush (v := (-2)) hx hb dX10_find_39 (by decide) ?_
          exact W.iret (v := (-2)) hx hb hr (fun t ht hW => ⟨⟨(-2), (), rfl, (by rw [sp_find, if_pos c2, if_pos c4, if_pos c6, if_neg c7]), trivial⟩, hS.F ht⟩) hS.2.2 dX10_find_41
  · skip
    have c2 := (fa_bool_prop hr1).1.mp c2
    refine lv_iconst (v := (-1)) hx hb dX10_find_8 (by decide) ?_
    exact W.iret (v := (-1)) hx hb hr (fun t ht hW => ⟨⟨(-1), (), rfl, (by rw [sp_find, if_neg c2]), trivial⟩, hS.F ht⟩) hS.2.2 dX10_find_9
set_option maxHeartbeats 4000000 in
set_option maxRecDepth 100000 in
theorem c_X10_rise (l : Launch) (dC : Nat → ClassId) (dI : Nat → Nat → Nat) (cI : ClassId) (sz : Nat) (qx : Nat) (x1 : Value) (x2 : Value) (x3 : Value) (x4 : Value) (x5 : Value) (x6 : Value) (x7 : Value) (x8 : Value) (x9 : Value) (x10 : Value) (x11 : Value) (x12 : Value) (ql : Nat) (lw : Nat) (hg : Nat) (tl : Nat) (th : Nat) (dd : Int32) (gl : Nat → Int32) (gh : Nat → Int32)  : Met l yX10_rise wsX10_rise ({ frames := 5, cells := 0, slots := 0, locals := 150 }) (pw (dC, dI) [(cI, .int)] [(qx, .inr (10, [.ref ql, x1, x2, x3, x4, x5, x6, x7, x8, x9, x10, x11, x12])), (ql, .inr (3, [.ref lw, .ref hg, .ref tl, .ref th, .int 1000])), (lw, .inl (cI, 48, .inl (fun _ => 0))), (hg, .inl (cI, 48, .inl (fun _ => 1000))), (tl, .inl (cI, 48, .inl gl)), (th, .inl (cI, 48, .inl gh))] sz [.ref qx, .int dd]) (va_Qi (fun r (_ : Unit) => r = sp_rise dd) (fun _ _ => True) (va_A [(qx, .inr (10, [.ref ql, x1, x2, x3, x4, x5, x6, x7, x8, x9, x10, x11, x12])), (ql, .inr (3, [.ref lw, .ref hg, .ref tl, .ref th, .int 1000])), (lw, .inl (cI, 48, .inl (fun _ => 0))), (hg, .inl (cI, 48, .inl (fun _ => 1000))), (tl, .inl (cI, 48, .inl gl)), (th, .inl (cI, 48, .inl gh))] sz)) 0 0 (va_A [(qx, .inr (10, [.ref ql, x1, x2, x3, x4, x5, x6, x7, x8, x9, x10, x11, x12])), (ql, .inr (3, [.ref lw, .ref hg, .ref tl, .ref th, .int 1000])), (lw, .inl (cI, 48, .inl (fun _ => 0))), (hg, .inl (cI, 48, .inl (fun _ => 1000))), (tl, .inl (cI, 48, .inl gl)), (th, .inl (cI, 48, .inl gh))] sz) := by
  refine pw_met (cc := cX10_rise) (maxL := 2) (ret := (some .int)) (by decide) rfl (Nat.le_of_ble_eq_true rfl) ?_
  intro p e s m below meth c0 hx hb hr hml hown hlocks hnm hts hP hK hD hN hsz hA hS ls hl
  subst hsz
  have hl : lv_has ls 2 [(0, .ref qx), (1, .int dd)] := hl
  have hiX10 : ∀ w ∈ wsX100, w ∈ wsX10_rise := by decide +kernel
  have hiX3 : ∀ w ∈ wsX30, w ∈ wsX10_rise := by decide +kernel
  refine lv_iload_n hx hb dX10_rise_0 rfl (lv_at hl 1 rfl) ?_
  refine lv_iconst (v := 0) hx hb dX10_rise_1 (by decide) ?_
  refine lv_sipush (v := 1000) hx hb dX10_rise_2 (by decide) ?_
  refine vp_callSi (va_Run.run (va_runS (As := [.int dd, .int 0, .int 1000]) (rest := []) ⟨hx, hb, hml, hown, hts⟩ (c_X10_isWithin l dd 0 1000 ) (va_cwS 3 hts gX10_rise_X10_isWithin rfl rfl rfl (by decide +kernel) ⟨Nat.le_of_ble_eq_true rfl, Nat.le_of_ble_eq_true rfl⟩) (p0_preS hN) rfl rfl hl.1 rfl (lv_room (Nat.le_of_ble_eq_true rfl)) dX10_rise_5 ⟨Nat.le_of_ble_eq_true rfl, Nat.le_of_ble_eq_true rfl⟩)) (fun r1 hr1 => ?_)
  have hr1 : r1 = if 0 ≤ dd ∧ dd ≤ 1000 then 1 else 0 := hr1
  refine lv_if_ne (tgt := 14) hx hb dX10_rise_8 (by decide) (fun c2 => ?_) (fun c2 => ?_)
  · skip
    have c2 := (fa_bool_prop hr1).2.mp c2
    refine lv_iload_n hx hb dX10_rise_14 rfl (lv_at hl 1 rfl) ?_
    refine lv_aload_n hx hb dX10_rise_15 rfl (lv_at hl 0 rfl) ?_
    refine va_get (D := (dC, dI)) (ci := 10) (v := .ref ql) (C := RX10) (T := TX10) (N := 13) hx hb hts hiX10 hown hK hP 0 rfl rfl 0 (by decide) (hts (.fieldLink RX10 12 "TributePitches" "lode" "LTributePitches$Lode;") (by decide +kernel)) (fun _ h9 => h9) rfl dX10_rise_16 ?_
    refine va_get (D := (dC, dI)) (ci := 3) (v := .int 1000) (C := RX3) (T := TX3) (N := 5) hx hb hts hiX3 hown hK hP 1 rfl rfl 4 (by decide) (hts (.fieldLink RX10 79 "TributePitches$Lode" "law" "I") (by decide +kernel)) (fun _ h9 => h9) rfl dX10_rise_19 ?_
    refine lv_icmp_le (tgt := 28) hx hb dX10_rise_22 (by decide) (fun c3 => ?_) (fun c3 => ?_)
    · skip
      refine lv_aload_n hx hb dX10_rise_28 rfl (lv_at hl 0 rfl) ?_
      refine va_get (D := (dC, dI)) (ci := 10) (v := .ref ql) (C := RX10) (T := TX10) (N := 13) hx hb hts hiX10 hown hK hP 0 rfl rfl 0 (by decide) (hts (.fieldLink RX10 12 "TributePitches" "lode" "LTributePitches$Lode;") (by decide +kernel)) (fun _ h9 => h9) rfl dX10_rise_29 ?_
      have hPc := hP.sub (ws' := [(ql, .inr (3, [.ref lw, .ref hg, .ref tl, .ref th, .int 1000])), (lw, .inl (cI, 48, .inl (fun _ => 0))), (hg, .inl (cI, 48, .inl (fun _ => 1000))), (tl, .inl (cI, 48, .inl gl)), (th, .inl (cI, 48, .inl gh))]) [1, 2, 3, 4, 5] rfl
      have hDc := hD.sub (ws' := [(ql, .inr (3, [.ref lw, .ref hg, .ref tl, .ref th, .int 1000])), (lw, .inl (cI, 48, .inl (fun _ => 0))), (hg, .inl (cI, 48, .inl (fun _ => 1000))), (tl, .inl (cI, 48, .inl gl)), (th, .inl (cI, 48, .inl gh))]) [1, 2, 3, 4, 5] (by decide) rfl
      have hKc := hK.sub (tys' := [(cI, .int)]) [0] rfl
      have hFc := va_free (wc := [(ql, .inr (3, [.ref lw, .ref hg, .ref tl, .ref th, .int 1000])), (lw, .inl (cI, 48, .inl (fun _ => 0))), (hg, .inl (cI, 48, .inl (fun _ => 1000))), (tl, .inl (cI, 48, .inl gl)), (th, .inl (cI, 48, .inl gh))]) hD hS hA [1, 2, 3, 4, 5] rfl
      refine va_callv (va_runV (As := []) (rest := []) ⟨hx, hb, hml, hown, hts⟩ (c_X3_beginTrial l dC dI cI _ ql lw hg tl th 1000 (fun _ => 0) (fun _ => 1000) gl gh ) (cwV 0 hts gX10_rise_X3_beginTrial rfl rfl rfl (by decide +kernel) ⟨Nat.le_of_ble_eq_true rfl, Nat.le_of_ble_eq_true rfl⟩) (pw_preV (va_recv hKc hPc (ci := 3) (q0 := 0) rfl rfl) hPc hKc hDc hN) rfl rfl hl.1 rfl (lv_room (Nat.le_of_ble_eq_true rfl)) dX10_rise_32 ⟨Nat.le_of_ble_eq_true rfl, Nat.le_of_ble_eq_true rfl⟩) hS (fun q _ h => hFc q h) hFc (fun u t H1 locs ht hvm hw hB hz1 hk1 hS => ?_)
      obtain ⟨hP1, hK1, hD1⟩ := hB
      rw [ht] at hP1
      obtain ⟨hP, hD⟩ := va_join (wr := [(qx, .inr (10, [.ref ql, x1, x2, x3, x4, x5, x6, x7, x8, x9, x10, x11, x12]))]) (w1 := [(ql, .inr (3, [.ref lw, .ref hg, .ref tl, .ref th, .int 1000])), (lw, .inl (cI, 48, .inl (fun _ => 0))), (hg, .inl (cI, 48, .inl (fun _ => 1000))), (tl, .inl (cI, 48, .inl (fun _ => 0))), (th, .inl (cI, 48, .inl (fun _ => 1000)))]) hP hD [1, 2, 3, 4, 5] [0] rfl rfl (by decide) (by decide) hk1 hFc hP1 hD1
      generalize H1 = H at hP hS ⊢
      have hP : va_P (dC, dI) vwCl [(qx, .inr (10, [.ref ql, x1, x2, x3, x4, x5, x6, x7, x8, x9, x10, x11, x12])), (ql, .inr (3, [.ref lw, .ref hg, .ref tl, .ref th, .int 1000])), (lw, .inl (cI, 48, .inl (fun _ => 0))), (hg, .inl (cI, 48, .inl (fun _ => 1000))), (tl, .inl (cI, 48, .inl (fun _ => 0))), (th, .inl (cI, 48, .inl (fun _ => 1000)))] H := hP
      have hD : va_D _ [(qx, .inr (10, [.ref ql, x1, x2, x3, x4, x5, x6, x7, x8, x9, x10, x11, x12])), (ql, .inr (3, [.ref lw, .ref hg, .ref tl, .ref th, .int 1000])), (lw, .inl (cI, 48, .inl (fun _ => 0))), (hg, .inl (cI, 48, .inl (fun _ => 1000))), (tl, .inl (cI, 48, .inl (fun _ => 0))), (th, .inl (cI, 48, .inl (fun _ => 1000)))] := hD
      refine lv_aload_n hx hb dX10_rise_35 rfl (lv_at hl 0 rfl) ?_
      refine va_get (D := (dC, dI)) (ci := 10) (v := .ref ql) (C := RX10) (T := TX10) (N := 13) hx hb hts hiX10 hown hK hP 0 rfl rfl 0 (by decide) (hts (.fieldLink RX10 12 "TributePitches" "lode" "LTributePitches$Lode;") (by decide +kernel)) (fun _ h9 => h9) rfl dX10_rise_36 ?_
      refine lv_iload_n hx hb dX10_rise_39 rfl (lv_at hl 1 rfl) ?_
      have hPc := hP.sub (ws' := [(ql, .inr (3, [.ref lw, .ref hg, .ref tl, .ref th, .int 1000])), (lw, .inl (cI, 48, .inl (fun _ => 0))), (hg, .inl (cI, 48, .inl (fun _ => 1000))), (tl, .inl (cI, 48, .inl (fun _ => 0))), (th, .inl (cI, 48, .inl (fun _ => 1000)))]) [1, 2, 3, 4, 5] rfl
      have hDc := hD.sub (ws' := [(ql, .inr (3, [.ref lw, .ref hg, .ref tl, .ref th, .int 1000])), (lw, .inl (cI, 48, .inl (fun _ => 0))), (hg, .inl (cI, 48, .inl (fun _ => 1000))), (tl, .inl (cI, 48, .inl (fun _ => 0))), (th, .inl (cI, 48, .inl (fun _ => 1000)))]) [1, 2, 3, 4, 5] (by decide) rfl
      have hKc := hK.sub (tys' := [(cI, .int)]) [0] rfl
      have hFc := va_free (wc := [(ql, .inr (3, [.ref lw, .ref hg, .ref tl, .ref th, .int 1000])), (lw, .inl (cI, 48, .inl (fun _ => 0))), (hg, .inl (cI, 48, .inl (fun _ => 1000))), (tl, .inl (cI, 48, .inl (fun _ => 0))), (th, .inl (cI, 48, .inl (fun _ => 1000)))]) hD hS hA [1, 2, 3, 4, 5] rfl
      refine va_calli (va_runV (As := [.int dd]) (rest := []) ⟨hx, hb, hml, hown, hts⟩ (c_X3_endTrial l dC dI cI _ ql lw hg tl th 1000 dd (fun _ => 0) (fun _ => 1000) (fun _ => 0) (fun _ => 1000) (rs_na c2) rs_ok) (cwV 1 hts gX10_rise_X3_endTrial rfl rfl rfl (by decide +kernel) ⟨Nat.le_of_ble_eq_true rfl, Nat.le_of_ble_eq_true rfl⟩) (pw_preV (va_recv hKc hPc (ci := 3) (q0 := 0) rfl rfl) hPc hKc hDc hN) rfl rfl hl.1 rfl (lv_room (Nat.le_of_ble_eq_true rfl)) dX10_rise_40 ⟨Nat.le_of_ble_eq_true rfl, Nat.le_of_ble_eq_true rfl⟩) hS (fun q _ h => hFc q h) hFc (fun r5 u t H1 locs ht hvm hw hB hz1 hk1 hS => ?_)
      have hr5 : r5 = nI (fa_cnt (chg (fun _ => 0) (fun _ => 1000) (fun _ => 0) (fun _ => 1000)) 48) := hw
      have hP1 : va_P (dC, dI) vwCl [] H1 := fun k q h => by simp at h
      have hD1 : va_D (va_A [(ql, .inr (3, [.ref lw, .ref hg, .ref tl, .ref th, .int 1000])), (lw, .inl (cI, 48, .inl (fun _ => 0))), (hg, .inl (cI, 48, .inl (fun _ => 1000))), (tl, .inl (cI, 48, .inl (fun _ => 0))), (th, .inl (cI, 48, .inl (fun _ => 1000)))] H.size) ([] : va_W) := ⟨fun i j p q h => by simp at h, fun k q h => by simp at h⟩
      obtain ⟨hP, hD⟩ := va_join (wr := [(qx, .inr (10, [.ref ql, x1, x2, x3, x4, x5, x6, x7, x8, x9, x10, x11, x12]))]) (w1 := []) hP hD [1, 2, 3, 4, 5] [0] rfl rfl (by decide) (by decide) hk1 hFc hP1 hD1
      generalize H1 = H at hP hS ⊢
      have hP : va_P (dC, dI) vwCl [(qx, .inr (10, [.ref ql, x1, x2, x3, x4, x5, x6, x7, x8, x9, x10, x11, x12]))] H := hP
      have hD : va_D _ [(qx, .inr (10, [.ref ql, x1, x2, x3, x4, x5, x6, x7, x8, x9, x10, x11, x12]))] := hD
      exact W.iret (v := r5) hx hb hr (fun t ht hW => ⟨⟨r5, (), rfl, (by rw [sp_rise, if_pos c2]; exact hr5), trivial⟩, hS.F ht⟩) hS.2.2 dX10_rise_43
    · exact absurd c3 (not_not_intro c2.2)
  · skip
    have c2 := (fa_bool_prop hr1).1.mp c2
    refine lv_bipush (v := (-2)) hx hb dX10_rise_11 (by decide) ?_
    exact W.iret (v := (-2)) hx hb hr (fun t ht hW => ⟨⟨(-2), (), rfl, (by rw [sp_rise, if_neg c2]), trivial⟩, hS.F ht⟩) hS.2.2 dX10_rise_13
set_option maxHeartbeats 4000000 in
set_option maxRecDepth 100000 in
theorem c_X10_good (l : Launch) (dC : Nat → ClassId) (dI : Nat → Nat → Nat) (cI : ClassId) (sz : Nat) (qx : Nat) (x1 : Value) (x2 : Value) (x3 : Value) (x4 : Value) (x5 : Value) (x6 : Value) (x7 : Value) (x8 : Value) (x9 : Value) (x10 : Value) (x11 : Value) (x12 : Value) (ql : Nat) (lw : Nat) (hg : Nat) (x : Int32) (y : Int32) (wh : Int32) (u2 : Value) (u3 : Value) (u4 : Value)  : Met l yX10_good wsX10_good ({ frames := 2, cells := 0, slots := 0, locals := 60 }) (pw (dC, dI) [(cI, .int)] [(qx, .inr (10, [.ref ql, x1, x2, x3, x4, x5, x6, x7, x8, x9, x10, x11, x12])), (ql, .inr (3, [.ref lw, .ref hg, u2, u3, u4])), (lw, .inl (cI, 48, .inl (fun _ => 0))), (hg, .inl (cI, 48, .inl (fun _ => 1000)))] sz [.ref qx, .int x, .int y, .int wh]) (vp_Si (fun r => r = sp_good x y wh)) 0 0 (fun _ => False) := by
  refine pw_met (cc := cX10_good) (maxL := 5) (ret := (some .int)) (by decide) rfl (Nat.le_of_ble_eq_true rfl) ?_
  intro p e s m below meth c0 hx hb hr hml hown hlocks hnm hts hP hK hD hN hsz hA hS ls hl
  have hl : lv_has ls 5 [(0, .ref qx), (1, .int x), (2, .int y), (3, .int wh)] := hl
  have hiX10 : ∀ w ∈ wsX100, w ∈ wsX10_good := by decide +kernel
  have hiX3 : ∀ w ∈ wsX30, w ∈ wsX10_good := by decide +kernel
  refine lv_iload_n hx hb dX10_good_0 rfl (lv_at hl 1 rfl) ?_
  refine lv_iload_n hx hb dX10_good_1 rfl (lv_at hl 2 rfl) ?_
  refine vp_callSi (va_Run.run (va_runS (As := [.int x, .int y]) (rest := []) ⟨hx, hb, hml, hown, hts⟩ (c_X3_hasSquare l x y ) (va_cwS 2 hts gX10_good_X3_hasSquare rfl rfl rfl (by decide +kernel) ⟨Nat.le_of_ble_eq_true rfl, Nat.le_of_ble_eq_true rfl⟩) (p0_preS hN) rfl rfl hl.1 rfl (lv_room (Nat.le_of_ble_eq_true rfl)) dX10_good_2 ⟨Nat.le_of_ble_eq_true rfl, Nat.le_of_ble_eq_true rfl⟩)) (fun r1 hr1 => ?_)
  have hr1 : r1 = if (0 ≤ x ∧ x ≤ 7) ∧ (0 ≤ y ∧ y ≤ 5) then 1 else 0 := hr1
  refine lv_if_ne (tgt := 10) hx hb dX10_good_5 (by decide) (fun c2 => ?_) (fun c2 => ?_)
  · skip
    have c2 := (fa_bool_prop hr1).2.mp c2
    refine lv_iload_n hx hb dX10_good_10 rfl (lv_at hl 3 rfl) ?_
    refine lv_iconst (v := 0) hx hb dX10_good_11 (by decide) ?_
    refine lv_iconst (v := 1) hx hb dX10_good_12 (by decide) ?_
    refine vp_callSi (va_Run.run (va_runS (As := [.int wh, .int 0, .int 1]) (rest := []) ⟨hx, hb, hml, hown, hts⟩ (c_X10_isWithin l wh 0 1 ) (va_cwS 3 hts gX10_good_X10_isWithin rfl rfl rfl (by decide +kernel) ⟨Nat.le_of_ble_eq_true rfl, Nat.le_of_ble_eq_true rfl⟩) (p0_preS hN) rfl rfl hl.1 rfl (lv_room (Nat.le_of_ble_eq_true rfl)) dX10_good_13 ⟨Nat.le_of_ble_eq_true rfl, Nat.le_of_ble_eq_true rfl⟩)) (fun r3 hr3 => ?_)
    have hr3 : r3 = if 0 ≤ wh ∧ wh ≤ 1 then 1 else 0 := hr3
    refine lv_if_ne (tgt := 22) hx hb dX10_good_16 (by decide) (fun c4 => ?_) (fun c4 => ?_)
    · skip
      have c4 := (fa_bool_prop hr3).2.mp c4
      refine lv_iload_n hx hb dX10_good_22 rfl (lv_at hl 1 rfl) ?_
      refine lv_iload_n hx hb dX10_good_23 rfl (lv_at hl 2 rfl) ?_
      refine vp_callSi (va_Run.run (va_runS (As := [.int x, .int y]) (rest := []) ⟨hx, hb, hml, hown, hts⟩ (c_X3_numberOf l x y ) (va_cwS 2 hts gX10_good_X3_numberOf rfl rfl rfl (by decide +kernel) ⟨Nat.le_of_ble_eq_true rfl, Nat.le_of_ble_eq_true rfl⟩) (p0_preS hN) rfl rfl hl.1 rfl (lv_room (Nat.le_of_ble_eq_true rfl)) dX10_good_24 ⟨Nat.le_of_ble_eq_true rfl, Nat.le_of_ble_eq_true rfl⟩)) (fun r5 hr5 => ?_)
      have hr5 : r5 = 8 * y + x := hr5
      subst hr5
      refine lv_istore (lv' := [(4, .int (8 * y + x)), (0, .ref qx), (1, .int x), (2, .int y), (3, .int wh)]) hx hb dX10_good_27 hl (by decide) rfl (fun ls hl => ?_)
      refine lv_iload_n hx hb dX10_good_29 rfl (lv_at hl 4 rfl) ?_
      refine lv_if_ne (tgt := 46) hx hb dX10_good_30 (by decide) (fun c6 => ?_) (fun c6 => ?_)
      · skip
        refine lv_aload_n hx hb dX10_good_46 rfl (lv_at hl 1 rfl) ?_
        refine va_get (D := (dC, dI)) (ci := 10) (v := .ref ql) (C := RX10) (T := TX10) (N := 13) hx hb hts hiX10 hown hK hP 0 rfl rfl 0 (by decide) (hts (.fieldLink RX10 12 "TributePitches" "lode" "LTributePitches$Lode;") (by decide +kernel)) (fun _ h9 => h9) rfl dX10_good_47 ?_
        refine va_get (D := (dC, dI)) (ci := 3) (v := .ref hg) (C := RX3) (T := TX3) (N := 5) hx hb hts hiX3 hown hK hP 1 rfl rfl 1 (by decide) (hts (.fieldLink RX10 90 "TributePitches$Lode" "highs" "[I") (by decide +kernel)) (fun _ h9 => h9) rfl dX10_good_50 ?_
        refine lv_iload hx hb dX10_good_53 (lv_at hl 0 rfl) ?_
        refine va_iald hx hb hK hP 3 0 rfl rfl (sq_in c2) dX10_good_55 ?_
        refine W.eq (g2 := F0 m 56 ls [.int 1000]) rfl ?_
        exact W.iret (v := 1000) hx hb hr (fun t ht hW => ⟨1000, rfl, (by rw [sp_good, if_pos c2, if_pos c4, if_neg c6]), ht⟩) (fun q h => absurd h List.not_mem_nil) dX10_good_56
      · skip
        refine lv_aload_n hx hb dX10_good_33 rfl (lv_at hl 1 rfl) ?_
        refine va_get (D := (dC, dI)) (ci := 10) (v := .ref ql) (C := RX10) (T := TX10) (N := 13) hx hb hts hiX10 hown hK hP 0 rfl rfl 0 (by decide) (hts (.fieldLink RX10 12 "TributePitches" "lode" "LTributePitches$Lode;") (by decide +kernel)) (fun _ h9 => h9) rfl dX10_good_34 ?_
        refine va_get (D := (dC, dI)) (ci := 3) (v := .ref lw) (C := RX3) (T := TX3) (N := 5) hx hb hts hiX3 hown hK hP 1 rfl rfl 0 (by decide) (hts (.fieldLink RX10 86 "TributePitches$Lode" "lows" "[I") (by decide +kernel)) (fun _ h9 => h9) rfl dX10_good_37 ?_
        refine lv_iload hx hb dX10_good_40 (lv_at hl 0 rfl) ?_
        refine va_iald hx hb hK hP 2 0 rfl rfl (sq_in c2) dX10_good_42 ?_
        refine W.eq (g2 := F0 m 43 ls [.int 0]) rfl ?_
        refine lv_goto (tgt := 56) hx hb dX10_good_43 (by decide) ?_
        exact W.iret (v := 0) hx hb hr (fun t ht hW => ⟨0, rfl, (by rw [sp_good, if_pos c2, if_pos c4, if_pos c6]), ht⟩) (fun q h => absurd h List.not_mem_nil) dX10_good_56
    · skip
      have c4 := (fa_bool_prop hr3).1.mp c4
      refine lv_bipush (v := (-2)) hx hb dX10_good_19 (by decide) ?_
      exact W.iret (v := (-2)) hx hb hr (fun t ht hW => ⟨(-2), rfl, (by rw [sp_good, if_pos c2, if_neg c4]), ht⟩) (fun q h => absurd h List.not_mem_nil) dX10_good_21
  · skip
    have c2 := (fa_bool_prop hr1).1.mp c2
    refine lv_iconst (v := (-1)) hx hb dX10_good_8 (by decide) ?_
    exact W.iret (v := (-1)) hx hb hr (fun t ht hW => ⟨(-1), rfl, (by rw [sp_good, if_neg c2]), ht⟩) (fun q h => absurd h List.not_mem_nil) dX10_good_9
set_option maxHeartbeats 4000000 in
set_option maxRecDepth 100000 in
theorem c_X6_init (l : Launch) (dC : Nat → ClassId) (dI : Nat → Nat → Nat)  (sz : Nat) (qp : Nat) (b0 : Int32) (b1 : Int32) (b2 : Int32) (b3 : Int32) (b4 : Int32) (b5 : Int32)  : Met l yX6_init wsX6_init ({ frames := 1, cells := 0, slots := 0, locals := 12 }) (pw (dC, dI) [] [(qp, .inr (6, [.int 0, .int 0, .int 0, .int 0, .int 0, .int 0, .int 0, .null]))] sz [.ref qp, .int b0, .int b1, .int b2, .int b3, .int b4, .int b5]) (va_Qv (fun (_ : Unit) => True) (fun _ t => bw (dC, dI) [] (va_A [(qp, .inr (6, [.int 0, .int 0, .int 0, .int 0, .int 0, .int 0, .int 0, .null]))] sz) [(qp, .inr (6, [.int b0, .int b1, .int b2, .int b3, .int b4, .int b5, .int 0, .null]))] t) (va_A [(qp, .inr (6, [.int 0, .int 0, .int 0, .int 0, .int 0, .int 0, .int 0, .null]))] sz)) 0 0 (va_A [(qp, .inr (6, [.int 0, .int 0, .int 0, .int 0, .int 0, .int 0, .int 0, .null]))] sz) := by
  refine pw_met (cc := cX6_init) (maxL := 7) (ret := none) (by decide) rfl (Nat.le_of_ble_eq_true rfl) ?_
  intro p e s m below meth c0 hx hb hr hml hown hlocks hnm hts hP hK hD hN hsz hA hS ls hl
  subst hsz
  have hl : lv_has ls 7 [(0, .ref qp), (1, .int b0), (2, .int b1), (3, .int b2), (4, .int b3), (5, .int b4), (6, .int b5)] := hl
  have hiX6 : ∀ w ∈ wsX60, w ∈ wsX6_init := by decide +kernel
  refine lv_aload_n hx hb dX6_init_0 rfl (lv_at hl 0 rfl) ?_
  refine W.objInit hx hb hown (hts (.methodLink RX6 1 objectInit) (by decide +kernel)) (hts (.instanceMethod objectInit) (by decide +kernel)) (hts _ (List.mem_of_getElem? (i := 3) rfl)) rfl (by rw [hml]; exact hl.1) rfl dX6_init_1 (Nat.le_of_ble_eq_true rfl) (Nat.le_of_ble_eq_true rfl) ?_
  refine W.eq (g2 := F0 m 4 ls []) rfl ?_
  refine lv_aload_n hx hb dX6_init_4 rfl (lv_at hl 0 rfl) ?_
  refine lv_iload_n hx hb dX6_init_5 rfl (lv_at hl 1 rfl) ?_
  refine va_putF (D := (dC, dI)) (ci := 6) (v := .int b0) (ty := .int) (C := RX6) (T := TX6) (N := 8) hx hb hts hiX6 tyX6 tyX6_ok nmX6 hown hK hP hD hS 0 rfl rfl 0 (by decide) (hts (.fieldLink RX6 7 "TributePitches$Pitch" "number" "I") (by decide +kernel)) (fun _ h9 => h9) rfl hnm rfl (by decide +kernel) rfl rfl (Nat.le_of_ble_eq_true rfl) dX6_init_6 (fun H locs hP hD hS => ?_)
  have hP : va_P (dC, dI) vwCl [(qp, .inr (6, [.int b0, .int 0, .int 0, .int 0, .int 0, .int 0, .int 0, .null]))] H := hP
  have hD : va_D _ [(qp, .inr (6, [.int b0, .int 0, .int 0, .int 0, .int 0, .int 0, .int 0, .null]))] := hD
  refine lv_aload_n hx hb dX6_init_9 rfl (lv_at hl 0 rfl) ?_
  refine lv_iload_n hx hb dX6_init_10 rfl (lv_at hl 2 rfl) ?_
  refine va_putF (D := (dC, dI)) (ci := 6) (v := .int b1) (ty := .int) (C := RX6) (T := TX6) (N := 8) hx hb hts hiX6 tyX6 tyX6_ok nmX6 hown hK hP hD hS 0 rfl rfl 1 (by decide) (hts (.fieldLink RX6 13 "TributePitches$Pitch" "x" "I") (by decide +kernel)) (fun _ h9 => h9) rfl hnm rfl (by decide +kernel) rfl rfl (Nat.le_of_ble_eq_true rfl) dX6_init_11 (fun H locs hP hD hS => ?_)
  have hP : va_P (dC, dI) vwCl [(qp, .inr (6, [.int b0, .int b1, .int 0, .int 0, .int 0, .int 0, .int 0, .null]))] H := hP
  have hD : va_D _ [(qp, .inr (6, [.int b0, .int b1, .int 0, .int 0, .int 0, .int 0, .int 0, .null]))] := hD
  refine lv_aload_n hx hb dX6_init_14 rfl (lv_at hl 0 rfl) ?_
  refine lv_iload_n hx hb dX6_init_15 rfl (lv_at hl 3 rfl) ?_
  refine va_putF (D := (dC, dI)) (ci := 6) (v := .int b2) (ty := .int) (C := RX6) (T := TX6) (N := 8) hx hb hts hiX6 tyX6 tyX6_ok nmX6 hown hK hP hD hS 0 rfl rfl 2 (by decide) (hts (.fieldLink RX6 16 "TributePitches$Pitch" "y" "I") (by decide +kernel)) (fun _ h9 => h9) rfl hnm rfl (by decide +kernel) rfl rfl (Nat.le_of_ble_eq_true rfl) dX6_init_16 (fun H locs hP hD hS => ?_)
  have hP : va_P (dC, dI) vwCl [(qp, .inr (6, [.int b0, .int b1, .int b2, .int 0, .int 0, .int 0, .int 0, .null]))] H := hP
  have hD : va_D _ [(qp, .inr (6, [.int b0, .int b1, .int b2, .int 0, .int 0, .int 0, .int 0, .null]))] := hD
  refine lv_aload_n hx hb dX6_init_19 rfl (lv_at hl 0 rfl) ?_
  refine lv_iload hx hb dX6_init_20 (lv_at hl 4 rfl) ?_
  refine va_putF (D := (dC, dI)) (ci := 6) (v := .int b3) (ty := .int) (C := RX6) (T := TX6) (N := 8) hx hb hts hiX6 tyX6 tyX6_ok nmX6 hown hK hP hD hS 0 rfl rfl 3 (by decide) (hts (.fieldLink RX6 19 "TributePitches$Pitch" "x2" "I") (by decide +kernel)) (fun _ h9 => h9) rfl hnm rfl (by decide +kernel) rfl rfl (Nat.le_of_ble_eq_true rfl) dX6_init_22 (fun H locs hP hD hS => ?_)
  have hP : va_P (dC, dI) vwCl [(qp, .inr (6, [.int b0, .int b1, .int b2, .int b3, .int 0, .int 0, .int 0, .null]))] H := hP
  have hD : va_D _ [(qp, .inr (6, [.int b0, .int b1, .int b2, .int b3, .int 0, .int 0, .int 0, .null]))] := hD
  refine lv_aload_n hx hb dX6_init_25 rfl (lv_at hl 0 rfl) ?_
  refine lv_iload hx hb dX6_init_26 (lv_at hl 5 rfl) ?_
  refine va_putF (D := (dC, dI)) (ci := 6) (v := .int b4) (ty := .int) (C := RX6) (T := TX6) (N := 8) hx hb hts hiX6 tyX6 tyX6_ok nmX6 hown hK hP hD hS 0 rfl rfl 4 (by decide) (hts (.fieldLink RX6 22 "TributePitches$Pitch" "y2" "I") (by decide +kernel)) (fun _ h9 => h9) rfl hnm rfl (by decide +kernel) rfl rfl (Nat.le_of_ble_eq_true rfl) dX6_init_28 (fun H locs hP hD hS => ?_)
  have hP : va_P (dC, dI) vwCl [(qp, .inr (6, [.int b0, .int b1, .int b2, .int b3, .int b4, .int 0, .int 0, .null]))] H := hP
  have hD : va_D _ [(qp, .inr (6, [.int b0, .int b1, .int b2, .int b3, .int b4, .int 0, .int 0, .null]))] := hD
  refine lv_aload_n hx hb dX6_init_31 rfl (lv_at hl 0 rfl) ?_
  refine lv_iload hx hb dX6_init_32 (lv_at hl 6 rfl) ?_
  refine va_putF (D := (dC, dI)) (ci := 6) (v := .int b5) (ty := .int) (C := RX6) (T := TX6) (N := 8) hx hb hts hiX6 tyX6 tyX6_ok nmX6 hown hK hP hD hS 0 rfl rfl 5 (by decide) (hts (.fieldLink RX6 25 "TributePitches$Pitch" "tons" "I") (by decide +kernel)) (fun _ h9 => h9) rfl hnm rfl (by decide +kernel) rfl rfl (Nat.le_of_ble_eq_true rfl) dX6_init_34 (fun H locs hP hD hS => ?_)
  have hP : va_P (dC, dI) vwCl [(qp, .inr (6, [.int b0, .int b1, .int b2, .int b3, .int b4, .int b5, .int 0, .null]))] H := hP
  have hD : va_D _ [(qp, .inr (6, [.int b0, .int b1, .int b2, .int b3, .int b4, .int b5, .int 0, .null]))] := hD
  have hP9 := hP.sub (ws' := [(qp, .inr (6, [.int b0, .int b1, .int b2, .int b3, .int b4, .int b5, .int 0, .null]))]) [0] rfl
  have hD9 := hD.sub (ws' := [(qp, .inr (6, [.int b0, .int b1, .int b2, .int b3, .int b4, .int b5, .int 0, .null]))]) [0] (by decide) rfl
  have hK9 := hK.sub (tys' := []) [] rfl
  exact W.vret hx hb hr (fun t ht hW => ⟨⟨(), rfl, trivial, ⟨by rw [ht]; exact hP9, va_K.moved hW.alike hK9, hD9⟩⟩, hS.F ht⟩) hS.2.2 dX6_init_37
set_option maxHeartbeats 4000000 in
set_option maxRecDepth 100000 in
theorem c_X10_isAnyPitched (l : Launch) (dC : Nat → ClassId) (dI : Nat → Nat → Nat)  (sz : Nat) (qx : Nat) (x0 : Value) (x1 : Value) (x2 : Value) (x3 : Value) (x4 : Value) (x5 : Value) (x6 : Value) (x8 : Value) (x9 : Value) (x10 : Value) (x11 : Value) (x12 : Value) (x : Int32) (y : Int32) (xx : Int32) (yy : Int32)  : Met l yX10_isAnyPitched wsX10_isAnyPitched ({ frames := 0, cells := 0, slots := 0, locals := 0 }) (pw (dC, dI) [] [(qx, .inr (10, [x0, x1, x2, x3, x4, x5, x6, .int 0, x8, x9, x10, x11, x12]))] sz [.ref qx, .int x, .int y, .int xx, .int yy]) (vp_Si (fun r => r = 0)) 0 0 (fun _ => False) := by
  refine pw_met (cc := cX10_isAnyPitched) (maxL := 6) (ret := (some .boolean)) (by decide) rfl (Nat.le_of_ble_eq_true rfl) ?_
  intro p e s m below meth c0 hx hb hr hml hown hlocks hnm hts hP hK hD hN hsz hA hS ls hl
  have hl : lv_has ls 6 [(0, .ref qx), (1, .int x), (2, .int y), (3, .int xx), (4, .int yy)] := hl
  have hiX10 : ∀ w ∈ wsX100, w ∈ wsX10_isAnyPitched := by decide +kernel
  refine lv_iconst (v := 0) hx hb dX10_isAnyPitched_0 (by decide) ?_
  refine lv_istore (lv' := [(5, .int 0), (0, .ref qx), (1, .int x), (2, .int y), (3, .int xx), (4, .int yy)]) hx hb dX10_isAnyPitched_1 hl (by decide) rfl (fun ls hl => ?_)
  refine lv_iload hx hb dX10_isAnyPitched_3 (lv_at hl 0 rfl) ?_
  refine lv_aload_n hx hb dX10_isAnyPitched_5 rfl (lv_at hl 1 rfl) ?_
  refine va_get (D := (dC, dI)) (ci := 10) (v := .int 0) (C := RX10) (T := TX10) (N := 13) hx hb hts hiX10 hown hK hP 0 rfl rfl 7 (by decide) (hts (.fieldLink RX10 124 "TributePitches" "pitchCount" "I") (by decide +kernel)) (fun _ h9 => h9) rfl dX10_isAnyPitched_6 ?_
  refine lv_icmp_ge (tgt := 38) hx hb dX10_isAnyPitched_9 (by decide) (fun c1 => ?_) (fun c1 => ?_)
  · skip
    refine lv_iconst (v := 0) hx hb dX10_isAnyPitched_38 (by decide) ?_
    exact W.zret (v := 0) hx hb hr rfl (fun t ht hW => ⟨0, rfl, rfl, ht⟩) (fun q h => absurd h List.not_mem_nil) dX10_isAnyPitched_39
  · exact absurd c1 (by decide)
set_option maxHeartbeats 4000000 in
set_option maxRecDepth 100000 in
theorem c_X10_pitch (l : Launch) (dC : Nat → ClassId) (dI : Nat → Nat → Nat) (cP : ClassId) (sz : Nat) (qx : Nat) (x0 : Value) (x2 : Value) (x3 : Value) (x4 : Value) (x5 : Value) (x6 : Value) (x8 : Value) (x9 : Value) (x10 : Value) (x11 : Value) (x12 : Value) (pa : Nat) (fp : Nat → Option Nat) (x : Int32) (y : Int32) (xx : Int32) (yy : Int32) (tn : Int32)  : Met l yX10_pitch wsX10_pitch ({ frames := 2, cells := 1, slots := 8, locals := 60 }) (pw (dC, dI) [(cP, .object RX6)] [(qx, .inr (10, [x0, .ref pa, x2, x3, x4, x5, x6, .int 0, x8, x9, x10, x11, x12])), (pa, .inl (cP, 12, .inr (.inr (.inr (.inr fp)))))] sz [.ref qx, .int x, .int y, .int xx, .int yy, .int tn]) (va_Qi (fun r (_ : Unit) => r = sp_pitch x y xx yy tn) (fun _ _ => True) (va_A [(qx, .inr (10, [x0, .ref pa, x2, x3, x4, x5, x6, .int 0, x8, x9, x10, x11, x12])), (pa, .inl (cP, 12, .inr (.inr (.inr (.inr fp)))))] sz)) 1 8 (va_A [(qx, .inr (10, [x0, .ref pa, x2, x3, x4, x5, x6, .int 0, x8, x9, x10, x11, x12])), (pa, .inl (cP, 12, .inr (.inr (.inr (.inr fp)))))] sz) := by
  refine pw_met (cc := cX10_pitch) (maxL := 6) (ret := (some .int)) (by decide) rfl (Nat.le_of_ble_eq_true rfl) ?_
  intro p e s m below meth c0 hx hb hr hml hown hlocks hnm hts hP hK hD hN hsz hA hS ls hl
  subst hsz
  have hl : lv_has ls 6 [(0, .ref qx), (1, .int x), (2, .int y), (3, .int xx), (4, .int yy), (5, .int tn)] := hl
  have hiX10 : ∀ w ∈ wsX100, w ∈ wsX10_pitch := by decide +kernel
  have hiX6 : ∀ w ∈ wsX60, w ∈ wsX10_pitch := by decide +kernel
  refine lv_iload_n hx hb dX10_pitch_0 rfl (lv_at hl 1 rfl) ?_
  refine lv_iload_n hx hb dX10_pitch_1 rfl (lv_at hl 2 rfl) ?_
  refine vp_callSi (va_Run.run (va_runS (As := [.int x, .int y]) (rest := []) ⟨hx, hb, hml, hown, hts⟩ (c_X3_hasSquare l x y ) (va_cwS 2 hts gX10_pitch_X3_hasSquare rfl rfl rfl (by decide +kernel) ⟨Nat.le_of_ble_eq_true rfl, Nat.le_of_ble_eq_true rfl⟩) (p0_preS hN) rfl rfl hl.1 rfl (lv_room (Nat.le_of_ble_eq_true rfl)) dX10_pitch_2 ⟨Nat.le_of_ble_eq_true rfl, Nat.le_of_ble_eq_true rfl⟩)) (fun r1 hr1 => ?_)
  have hr1 : r1 = if (0 ≤ x ∧ x ≤ 7) ∧ (0 ≤ y ∧ y ≤ 5) then 1 else 0 := hr1
  refine lv_if_eq (tgt := 17) hx hb dX10_pitch_5 (by decide) (fun c2 => ?_) (fun c2 => ?_)
  · skip
    have c2 := (fa_bool_prop hr1).1.mp c2
    refine lv_iconst (v := (-1)) hx hb dX10_pitch_17 (by decide) ?_
    refine W.widen (k := 1) (n := 8) (Nat.le_of_ble_eq_true rfl) (Nat.le_of_ble_eq_true rfl) ?_
    exact W.iret (v := (-1)) hx hb hr (fun t ht hW => ⟨⟨(-1), (), rfl, (by simp [sp_pitch, c2]), trivial⟩, hS.F ht⟩) hS.2.2 dX10_pitch_18
  · skip
    have c2 := (fa_bool_prop hr1).2.mp c2
    refine lv_iload_n hx hb dX10_pitch_8 rfl (lv_at hl 3 rfl) ?_
    refine lv_iload hx hb dX10_pitch_9 (lv_at hl 4 rfl) ?_
    refine vp_callSi (va_Run.run (va_runS (As := [.int xx, .int yy]) (rest := []) ⟨hx, hb, hml, hown, hts⟩ (c_X3_hasSquare l xx yy ) (va_cwS 2 hts gX10_pitch_X3_hasSquare rfl rfl rfl (by decide +kernel) ⟨Nat.le_of_ble_eq_true rfl, Nat.le_of_ble_eq_true rfl⟩) (p0_preS hN) rfl rfl hl.1 rfl (lv_room (Nat.le_of_ble_eq_true rfl)) dX10_pitch_11 ⟨Nat.le_of_ble_eq_true rfl, Nat.le_of_ble_eq_true rfl⟩)) (fun r3 hr3 => ?_)
    have hr3 : r3 = if (0 ≤ xx ∧ xx ≤ 7) ∧ (0 ≤ yy ∧ yy ≤ 5) then 1 else 0 := hr3
    refine lv_if_ne (tgt := 19) hx hb dX10_pitch_14 (by decide) (fun c4 => ?_) (fun c4 => ?_)
    · skip
      have c4 := (fa_bool_prop hr3).2.mp c4
      refine lv_iload_n hx hb dX10_pitch_19 rfl (lv_at hl 1 rfl) ?_
      refine lv_iload_n hx hb dX10_pitch_20 rfl (lv_at hl 3 rfl) ?_
      refine lv_icmp_gt (tgt := 41) hx hb dX10_pitch_21 (by decide) (fun c5 => ?_) (fun c5 => ?_)
      · skip
        refine lv_bipush (v := (-2)) hx hb dX10_pitch_41 (by decide) ?_
        refine W.widen (k := 1) (n := 8) (Nat.le_of_ble_eq_true rfl) (Nat.le_of_ble_eq_true rfl) ?_
        exact W.iret (v := (-2)) hx hb hr (fun t ht hW => ⟨⟨(-2), (), rfl, (by simp [sp_pitch, c2, c4, c5]), trivial⟩, hS.F ht⟩) hS.2.2 dX10_pitch_43
      · skip
        refine lv_iload_n hx hb dX10_pitch_24 rfl (lv_at hl 2 rfl) ?_
        refine lv_iload hx hb dX10_pitch_25 (lv_at hl 4 rfl) ?_
        refine lv_icmp_gt (tgt := 41) hx hb dX10_pitch_27 (by decide) (fun c6 => ?_) (fun c6 => ?_)
        · skip
          refine lv_bipush (v := (-2)) hx hb dX10_pitch_41 (by decide) ?_
          refine W.widen (k := 1) (n := 8) (Nat.le_of_ble_eq_true rfl) (Nat.le_of_ble_eq_true rfl) ?_
          exact W.iret (v := (-2)) hx hb hr (fun t ht hW => ⟨⟨(-2), (), rfl, (by simp [sp_pitch, c2, c4, c5, c6]), trivial⟩, hS.F ht⟩) hS.2.2 dX10_pitch_43
        · skip
          refine lv_iload hx hb dX10_pitch_30 (lv_at hl 5 rfl) ?_
          refine lv_iconst (v := 1) hx hb dX10_pitch_32 (by decide) ?_
          refine lv_bipush (v := 100) hx hb dX10_pitch_33 (by decide) ?_
          refine vp_callSi (va_Run.run (va_runS (As := [.int tn, .int 1, .int 100]) (rest := []) ⟨hx, hb, hml, hown, hts⟩ (c_X10_isWithin l tn 1 100 ) (va_cwS 3 hts gX10_pitch_X10_isWithin rfl rfl rfl (by decide +kernel) ⟨Nat.le_of_ble_eq_true rfl, Nat.le_of_ble_eq_true rfl⟩) (p0_preS hN) rfl rfl hl.1 rfl (lv_room (Nat.le_of_ble_eq_true rfl)) dX10_pitch_35 ⟨Nat.le_of_ble_eq_true rfl, Nat.le_of_ble_eq_true rfl⟩)) (fun r7 hr7 => ?_)
          have hr7 : r7 = if 1 ≤ tn ∧ tn ≤ 100 then 1 else 0 := hr7
          refine lv_if_ne (tgt := 44) hx hb dX10_pitch_38 (by decide) (fun c8 => ?_) (fun c8 => ?_)
          · skip
            have c8 := (fa_bool_prop hr7).2.mp c8
            refine lv_aload_n hx hb dX10_pitch_44 rfl (lv_at hl 0 rfl) ?_
            refine lv_iload_n hx hb dX10_pitch_45 rfl (lv_at hl 1 rfl) ?_
            refine lv_iload_n hx hb dX10_pitch_46 rfl (lv_at hl 2 rfl) ?_
            refine lv_iload_n hx hb dX10_pitch_47 rfl (lv_at hl 3 rfl) ?_
            refine lv_iload hx hb dX10_pitch_48 (lv_at hl 4 rfl) ?_
            have hPc := hP.sub (ws' := [(qx, .inr (10, [x0, .ref pa, x2, x3, x4, x5, x6, .int 0, x8, x9, x10, x11, x12]))]) [0] rfl
            have hDc := hD.sub (ws' := [(qx, .inr (10, [x0, .ref pa, x2, x3, x4, x5, x6, .int 0, x8, x9, x10, x11, x12]))]) [0] (by decide) rfl
            have hKc := hK.sub (tys' := []) [] rfl
            refine vp_callSi (va_Run.run (va_runV (As := [.int x, .int y, .int xx, .int yy]) (rest := []) ⟨hx, hb, hml, hown, hts⟩ (c_X10_isAnyPitched l dC dI  _ qx x0 (.ref pa) x2 x3 x4 x5 x6 x8 x9 x10 x11 x12 x y xx yy ) (cwV 4 hts gX10_pitch_X10_isAnyPitched rfl rfl rfl (by decide +kernel) ⟨Nat.le_of_ble_eq_true rfl, Nat.le_of_ble_eq_true rfl⟩) (pw_preV (va_recv hKc hPc (ci := 10) (q0 := 0) rfl rfl) hPc hKc hDc hN) rfl rfl hl.1 rfl (lv_room (Nat.le_of_ble_eq_true rfl)) dX10_pitch_50 ⟨Nat.le_of_ble_eq_true rfl, Nat.le_of_ble_eq_true rfl⟩)) (fun r9 hr9 => ?_)
            have hr9 : r9 = 0 := hr9
            subst hr9
            refine lv_if_eq (tgt := 59) hx hb dX10_pitch_53 (by decide) (fun c10 => ?_) (fun c10 => ?_)
            · skip
              refine lv_aload_n hx hb dX10_pitch_59 rfl (lv_at hl 0 rfl) ?_
              refine va_get (D := (dC, dI)) (ci := 10) (v := .int 0) (C := RX10) (T := TX10) (N := 13) hx hb hts hiX10 hown hK hP 0 rfl rfl 7 (by decide) (hts (.fieldLink RX10 124 "TributePitches" "pitchCount" "I") (by decide +kernel)) (fun _ h9 => h9) rfl dX10_pitch_60 ?_
              refine lv_bipush (v := 12) hx hb dX10_pitch_63 (by decide) ?_
              refine lv_icmp_lt (tgt := 71) hx hb dX10_pitch_65 (by decide) (fun c11 => ?_) (fun c11 => ?_)
              · skip
                refine lv_aload_n hx hb dX10_pitch_71 rfl (lv_at hl 0 rfl) ?_
                refine va_get (D := (dC, dI)) (ci := 10) (v := .ref pa) (C := RX10) (T := TX10) (N := 13) hx hb hts hiX10 hown hK hP 0 rfl rfl 1 (by decide) (hts (.fieldLink RX10 20 "TributePitches" "pitches" "[LTributePitches$Pitch;") (by decide +kernel)) (fun _ h9 => h9) rfl dX10_pitch_72 ?_
                refine lv_aload_n hx hb dX10_pitch_75 rfl (lv_at hl 0 rfl) ?_
                refine va_get (D := (dC, dI)) (ci := 10) (v := .int 0) (C := RX10) (T := TX10) (N := 13) hx hb hts hiX10 hown hK hP 0 rfl rfl 7 (by decide) (hts (.fieldLink RX10 124 "TributePitches" "pitchCount" "I") (by decide +kernel)) (fun _ h9 => h9) rfl dX10_pitch_76 ?_
                refine va_new (ci := 6) (fs := [.int 0, .int 0, .int 0, .int 0, .int 0, .int 0, .int 0, .null]) (C := RX6) (T := TX6) (N := 8) hx hb hts hiX6 tyX6 tyX6_ok hown (hts (.classLink RX10 18 RX6) (by decide +kernel)) (hts (.instantiable RX6 8) (by decide +kernel)) (hts (.initialized RX6) (by decide +kernel)) hK hP hD hS hA rfl (fun j hj => by rcases (show j = 0 ∨ j = 1 ∨ j = 2 ∨ j = 3 ∨ j = 4 ∨ j = 5 ∨ j = 6 ∨ j = 7 by omega) with rfl | rfl | rfl | rfl | rfl | rfl | rfl | rfl <;> rfl) (Nat.le_of_ble_eq_true rfl) (Nat.le_of_ble_eq_true rfl) dX10_pitch_79 (fun qp H hP hD hS => ?_)
                have hP : va_P (dC, dI) vwCl [(qx, .inr (10, [x0, .ref pa, x2, x3, x4, x5, x6, .int 0, x8, x9, x10, x11, x12])), (pa, .inl (cP, 12, .inr (.inr (.inr (.inr fp))))), (qp, .inr (6, [.int 0, .int 0, .int 0, .int 0, .int 0, .int 0, .int 0, .null]))] H := hP
                have hD : va_D _ [(qx, .inr (10, [x0, .ref pa, x2, x3, x4, x5, x6, .int 0, x8, x9, x10, x11, x12])), (pa, .inl (cP, 12, .inr (.inr (.inr (.inr fp))))), (qp, .inr (6, [.int 0, .int 0, .int 0, .int 0, .int 0, .int 0, .int 0, .null]))] := hD
                refine lv_dup hx hb dX10_pitch_82 rfl ?_
                refine lv_aload_n hx hb dX10_pitch_83 rfl (lv_at hl 0 rfl) ?_
                refine va_get (D := (dC, dI)) (ci := 10) (v := .int 0) (C := RX10) (T := TX10) (N := 13) hx hb hts hiX10 hown hK hP 0 rfl rfl 7 (by decide) (hts (.fieldLink RX10 124 "TributePitches" "pitchCount" "I") (by decide +kernel)) (fun _ h9 => h9) rfl dX10_pitch_84 ?_
                refine lv_iload_n hx hb dX10_pitch_87 rfl (lv_at hl 1 rfl) ?_
                refine lv_iload_n hx hb dX10_pitch_88 rfl (lv_at hl 2 rfl) ?_
                refine lv_iload_n hx hb dX10_pitch_89 rfl (lv_at hl 3 rfl) ?_
                refine lv_iload hx hb dX10_pitch_90 (lv_at hl 4 rfl) ?_
                refine lv_iload hx hb dX10_pitch_92 (lv_at hl 5 rfl) ?_
                have hPc := hP.sub (ws' := [(qp, .inr (6, [.int 0, .int 0, .int 0, .int 0, .int 0, .int 0, .int 0, .null]))]) [2] rfl
                have hDc := hD.sub (ws' := [(qp, .inr (6, [.int 0, .int 0, .int 0, .int 0, .int 0, .int 0, .int 0, .null]))]) [2] (by decide) rfl
                have hKc := hK.sub (tys' := []) [] rfl
                have hFc := va_free (wc := [(qp, .inr (6, [.int 0, .int 0, .int 0, .int 0, .int 0, .int 0, .int 0, .null]))]) hD hS hA [2] rfl
                refine va_callv (va_runI (As := [.int 0, .int x, .int y, .int xx, .int yy, .int tn]) (rest := [.ref qp, .int 0, .ref pa]) ⟨hx, hb, hml, hown, hts⟩ (c_X6_init l dC dI  _ qp 0 x y xx yy tn ) (cwI 6 hts gX10_pitch_X6_init rfl rfl rfl (hts (.initialized RX6) (by decide +kernel)) (hts (.methodLink RX10 127 yX6_init) (by decide +kernel)) (hts (.instanceMethod yX6_init) (by decide +kernel)) rfl (by decide +kernel) ⟨Nat.le_of_ble_eq_true rfl, Nat.le_of_ble_eq_true rfl⟩) (pw_preS hPc hKc hDc hN) rfl rfl hl.1 rfl (lv_room (Nat.le_of_ble_eq_true rfl)) dX10_pitch_94 ⟨Nat.le_of_ble_eq_true rfl, Nat.le_of_ble_eq_true rfl⟩) hS (fun q _ h => hFc q h) hFc (fun u t H1 locs ht hvm hw hB hz1 hk1 hS => ?_)
                obtain ⟨hP1, hK1, hD1⟩ := hB
                rw [ht] at hP1
                obtain ⟨hP, hD⟩ := va_join (wr := [(qx, .inr (10, [x0, .ref pa, x2, x3, x4, x5, x6, .int 0, x8, x9, x10, x11, x12])), (pa, .inl (cP, 12, .inr (.inr (.inr (.inr fp)))))]) (w1 := [(qp, .inr (6, [.int 0, .int x, .int y, .int xx, .int yy, .int tn, .int 0, .null]))]) hP hD [2] [0, 1] rfl rfl (by decide) (by decide) hk1 hFc hP1 hD1
                generalize H1 = H at hP hS ⊢
                have hP : va_P (dC, dI) vwCl [(qx, .inr (10, [x0, .ref pa, x2, x3, x4, x5, x6, .int 0, x8, x9, x10, x11, x12])), (pa, .inl (cP, 12, .inr (.inr (.inr (.inr fp))))), (qp, .inr (6, [.int 0, .int x, .int y, .int xx, .int yy, .int tn, .int 0, .null]))] H := hP
                have hD : va_D _ [(qx, .inr (10, [x0, .ref pa, x2, x3, x4, x5, x6, .int 0, x8, x9, x10, x11, x12])), (pa, .inl (cP, 12, .inr (.inr (.inr (.inr fp))))), (qp, .inr (6, [.int 0, .int x, .int y, .int xx, .int yy, .int tn, .int 0, .null]))] := hD
                refine va_astq (r := (RX6, TX6, 8)) hx hb hK hP hD hS 1 0 2 6 rfl rfl rfl rfl (by unfold vp_in; decide) dX10_pitch_97 (fun H locs hP hD hS => ?_)
                have hP : va_P (dC, dI) vwCl [(qx, .inr (10, [x0, .ref pa, x2, x3, x4, x5, x6, .int 0, x8, x9, x10, x11, x12])), (pa, .inl (cP, 12, .inr (.inr (.inr (.inr (va_up fp (0 : Int32).toNatClampNeg (some qp))))))), (qp, .inr (6, [.int 0, .int x, .int y, .int xx, .int yy, .int tn, .int 0, .null]))] H := hP
                have hD : va_D _ [(qx, .inr (10, [x0, .ref pa, x2, x3, x4, x5, x6, .int 0, x8, x9, x10, x11, x12])), (pa, .inl (cP, 12, .inr (.inr (.inr (.inr (va_up fp (0 : Int32).toNatClampNeg (some qp))))))), (qp, .inr (6, [.int 0, .int x, .int y, .int xx, .int yy, .int tn, .int 0, .null]))] := hD
                refine lv_aload_n hx hb dX10_pitch_98 rfl (lv_at hl 0 rfl) ?_
                refine lv_dup hx hb dX10_pitch_99 rfl ?_
                refine va_get (D := (dC, dI)) (ci := 10) (v := .int 0) (C := RX10) (T := TX10) (N := 13) hx hb hts hiX10 hown hK hP 0 rfl rfl 7 (by decide) (hts (.fieldLink RX10 124 "TributePitches" "pitchCount" "I") (by decide +kernel)) (fun _ h9 => h9) rfl dX10_pitch_100 ?_
                refine lv_dup_x1 hx hb dX10_pitch_103 rfl rfl ?_
                refine lv_iconst (v := 1) hx hb dX10_pitch_104 (by decide) ?_
                refine lv_iadd hx hb dX10_pitch_105 ?_
                refine lv_topi (fun v13 ev13 => ?_)
                have ev13 : v13 = 1 := by rw [ev13]; decide
                subst ev13
                refine va_put (D := (dC, dI)) (ci := 10) (v := .int 1) (ty := .int) (C := RX10) (T := TX10) (N := 13) hx hb hts hiX10 tyX10 tyX10_ok nmX10 hown hK hP hD hS 0 rfl rfl 7 (by decide) (hts (.fieldLink RX10 124 "TributePitches" "pitchCount" "I") (by decide +kernel)) (fun _ h9 => h9) rfl (by decide +kernel) rfl rfl (Nat.le_of_ble_eq_true rfl) dX10_pitch_106 (fun H locs hP hD hS => ?_)
                have hP : va_P (dC, dI) vwCl [(qx, .inr (10, [x0, .ref pa, x2, x3, x4, x5, x6, .int 1, x8, x9, x10, x11, x12])), (pa, .inl (cP, 12, .inr (.inr (.inr (.inr (va_up fp (0 : Int32).toNatClampNeg (some qp))))))), (qp, .inr (6, [.int 0, .int x, .int y, .int xx, .int yy, .int tn, .int 0, .null]))] H := hP
                have hD : va_D _ [(qx, .inr (10, [x0, .ref pa, x2, x3, x4, x5, x6, .int 1, x8, x9, x10, x11, x12])), (pa, .inl (cP, 12, .inr (.inr (.inr (.inr (va_up fp (0 : Int32).toNatClampNeg (some qp))))))), (qp, .inr (6, [.int 0, .int x, .int y, .int xx, .int yy, .int tn, .int 0, .null]))] := hD
                exact W.iret (v := 0) hx hb hr (fun t ht hW => ⟨⟨0, (), rfl, (by simp [sp_pitch, c2, c4, c5, c6, c8, c10, c11]), trivial⟩, hS.F ht⟩) hS.2.2 dX10_pitch_109
              · exact absurd c11 (by decide)
            · exact absurd c10 (by decide)
          · skip
            have c8 := (fa_bool_prop hr7).1.mp c8
            refine lv_bipush (v := (-2)) hx hb dX10_pitch_41 (by decide) ?_
            refine W.widen (k := 1) (n := 8) (Nat.le_of_ble_eq_true rfl) (Nat.le_of_ble_eq_true rfl) ?_
            exact W.iret (v := (-2)) hx hb hr (fun t ht hW => ⟨⟨(-2), (), rfl, (by simp [sp_pitch, c2, c4, c5, c6, c8]), trivial⟩, hS.F ht⟩) hS.2.2 dX10_pitch_43
    · skip
      have c4 := (fa_bool_prop hr3).1.mp c4
      refine lv_iconst (v := (-1)) hx hb dX10_pitch_17 (by decide) ?_
      refine W.widen (k := 1) (n := 8) (Nat.le_of_ble_eq_true rfl) (Nat.le_of_ble_eq_true rfl) ?_
      exact W.iret (v := (-1)) hx hb hr (fun t ht hW => ⟨⟨(-1), (), rfl, (by simp [sp_pitch, c2, c4]), trivial⟩, hS.F ht⟩) hS.2.2 dX10_pitch_18
