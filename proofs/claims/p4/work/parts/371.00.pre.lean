theorem cpy_all (f g : Nat → Int32) : ∀ j, j < 48 → va_cpy f g 0 0 48 j = f j := fun j hj => by
  have e := pk_cpy_in (f := f) (g := g) (sp := 0) (dp := 0) (n := 48) (j := j) (Nat.zero_le j) (by omega)
  rw [e]
  congr 1
  omega
def dn : Nat → Int32
  | 0 => -1
  | k + 1 => nI k
theorem dn_pred (k : Nat) : nI k + (-1) = dn k := by
  cases k with
  | zero => rfl
  | succ k => exact pk_m1 k
def chg (fl fh gl gh : Nat → Int32) (j : Nat) : Bool := decide (gl j ≠ fl j ∨ gh j ≠ fh j)
def tcL (a : Nat) (lo : Int32) (g : Nat → Int32) : Nat → Int32 := upd g a (if g a < lo then lo else g a)
def tcH (a : Nat) (hi : Int32) (g : Nat → Int32) : Nat → Int32 := upd g a (if hi < g a then hi else g a)
def sw1L (d : Int32) (i : Nat) (a : Nat → Int32) : Nat → Int32 := if 8 ≤ i then tcL i ((if 0 < i % 8 then tcL i (a (i - 1) - d) a else a) (i - 8) - d) (if 0 < i % 8 then tcL i (a (i - 1) - d) a else a) else (if 0 < i % 8 then tcL i (a (i - 1) - d) a else a)
def sw1H (d : Int32) (i : Nat) (a : Nat → Int32) : Nat → Int32 := if 8 ≤ i then tcH i ((if 0 < i % 8 then tcH i (a (i - 1) + d) a else a) (i - 8) + d) (if 0 < i % 8 then tcH i (a (i - 1) + d) a else a) else (if 0 < i % 8 then tcH i (a (i - 1) + d) a else a)
def dn1L (d : Int32) (i : Nat) (a : Nat → Int32) : Nat → Int32 := if i < 40 then tcL i ((if i % 8 < 7 then tcL i (a (i + 1) - d) a else a) (i + 8) - d) (if i % 8 < 7 then tcL i (a (i + 1) - d) a else a) else (if i % 8 < 7 then tcL i (a (i + 1) - d) a else a)
def dn1H (d : Int32) (i : Nat) (a : Nat → Int32) : Nat → Int32 := if i < 40 then tcH i ((if i % 8 < 7 then tcH i (a (i + 1) + d) a else a) (i + 8) + d) (if i % 8 < 7 then tcH i (a (i + 1) + d) a else a) else (if i % 8 < 7 then tcH i (a (i + 1) + d) a else a)
def swL (d : Int32) (g : Nat → Int32) : Nat → Nat → Int32
  | 0 => g
  | i + 1 => sw1L d i (swL d g i)
def swH (d : Int32) (g : Nat → Int32) : Nat → Nat → Int32
  | 0 => g
  | i + 1 => sw1H d i (swH d g i)
def dnL (d : Int32) (g : Nat → Int32) : Nat → Nat → Int32
  | 0 => g
  | k + 1 => dn1L d (47 - k) (dnL d g k)
def dnH (d : Int32) (g : Nat → Int32) : Nat → Nat → Int32
  | 0 => g
  | k + 1 => dn1H d (47 - k) (dnH d g k)
set_option maxHeartbeats 4000000 in
set_option maxRecDepth 100000 in
theorem c_X3_beginTrial (l : Launch) (dC : Nat → ClassId) (dI : Nat → Nat → Nat) (cI : ClassId) (sz : Nat) (ql : Nat) (lw : Nat) (hg : Nat) (tl : Nat) (th : Nat) (law : Int32) (fl : Nat → Int32) (fh : Nat → Int32) (gl : Nat → Int32) (gh : Nat → Int32)  : Met l yX3_beginTrial wsX3_beginTrial ({ frames := 1, cells := 0, slots := 0, locals := 60 }) (pw (dC, dI) [(cI, .int)] [(ql, .inr (3, [.ref lw, .ref hg, .ref tl, .ref th, .int law])), (lw, .inl (cI, 48, .inl fl)), (hg, .inl (cI, 48, .inl fh)), (tl, .inl (cI, 48, .inl gl)), (th, .inl (cI, 48, .inl gh))] sz [.ref ql]) (va_Qv (fun (_ : Unit) => True) (fun _ t => bw (dC, dI) [(cI, .int)] (va_A [(ql, .inr (3, [.ref lw, .ref hg, .ref tl, .ref th, .int law])), (lw, .inl (cI, 48, .inl fl)), (hg, .inl (cI, 48, .inl fh)), (tl, .inl (cI, 48, .inl gl)), (th, .inl (cI, 48, .inl gh))] sz) [(ql, .inr (3, [.ref lw, .ref hg, .ref tl, .ref th, .int law])), (lw, .inl (cI, 48, .inl fl)), (hg, .inl (cI, 48, .inl fh)), (tl, .inl (cI, 48, .inl fl)), (th, .inl (cI, 48, .inl fh))] t) (va_A [(ql, .inr (3, [.ref lw, .ref hg, .ref tl, .ref th, .int law])), (lw, .inl (cI, 48, .inl fl)), (hg, .inl (cI, 48, .inl fh)), (tl, .inl (cI, 48, .inl gl)), (th, .inl (cI, 48, .inl gh))] sz)) 0 0 (va_A [(ql, .inr (3, [.ref lw, .ref hg, .ref tl, .ref th, .int law])), (lw, .inl (cI, 48, .inl fl)), (hg, .inl (cI, 48, .inl fh)), (tl, .inl (cI, 48, .inl gl)), (th, .inl (cI, 48, .inl gh))] sz) := by
  refine pw_met (cc := cX3_beginTrial) (maxL := 1) (ret := none) (by decide) rfl (Nat.le_of_ble_eq_true rfl) ?_
  intro p e s m below meth c0 hx hb hr hml hown hlocks hnm hts hP hK hD hN hsz hA hS ls hl
  subst hsz
  have hl : lv_has ls 1 [(0, .ref ql)] := hl
  have hiX3 : ∀ w ∈ wsX30, w ∈ wsX3_beginTrial := by decide +kernel
  generalize hQ : MQ _ _ _ _ _ _ _ = Q
  refine lv_aload_n hx hb dX3_beginTrial_0 rfl (lv_at hl 0 rfl) ?_
  refine va_get (D := (dC, dI)) (ci := 3) (v := .ref lw) (C := RX3) (T := TX3) (N := 5) hx hb hts hiX3 hown hK hP 0 rfl rfl 0 (by decide) (hts (.fieldLink RX3 11 "TributePitches$Lode" "lows" "[I") (by decide +kernel)) (fun _ h9 => h9) rfl dX3_beginTrial_1 ?_
  refine lv_iconst (v := 0) hx hb dX3_beginTrial_4 (by decide) ?_
  refine lv_aload_n hx hb dX3_beginTrial_5 rfl (lv_at hl 0 rfl) ?_
  refine va_get (D := (dC, dI)) (ci := 3) (v := .ref tl) (C := RX3) (T := TX3) (N := 5) hx hb hts hiX3 hown hK hP 0 rfl rfl 2 (by decide) (hts (.fieldLink RX3 18 "TributePitches$Lode" "triedLows" "[I") (by decide +kernel)) (fun _ h9 => h9) rfl dX3_beginTrial_6 ?_
  refine lv_iconst (v := 0) hx hb dX3_beginTrial_9 (by decide) ?_
  refine lv_bipush (v := 48) hx hb dX3_beginTrial_10 (by decide) ?_
  refine va_copyi hx hb (hml.trans hl.1.symm) hown (hts (.methodLink RX3 38 arraycopyName) (by decide +kernel)) (hts (.native arraycopyName) (by decide +kernel)) (hts (.static arraycopyName) (by decide +kernel)) (hts (.initialized "java/lang/System") (by decide +kernel)) hK hP hD hS 1 3 0 0 rfl rfl rfl rfl rfl (by decide) (by decide) (by decide) (by decide) (by decide) (fun _ _ => rfl) (Nat.le_of_ble_eq_true rfl) (Nat.le_of_ble_eq_true rfl) dX3_beginTrial_12 (fun H locs hP hD hS => ?_)
  have hP : va_P (dC, dI) vwCl [(ql, .inr (3, [.ref lw, .ref hg, .ref tl, .ref th, .int law])), (lw, .inl (cI, 48, .inl fl)), (hg, .inl (cI, 48, .inl fh)), (tl, .inl (cI, 48, .inl (va_cpy fl gl 0 0 48))), (th, .inl (cI, 48, .inl gh))] H := hP
  have hD : va_D _ [(ql, .inr (3, [.ref lw, .ref hg, .ref tl, .ref th, .int law])), (lw, .inl (cI, 48, .inl fl)), (hg, .inl (cI, 48, .inl fh)), (tl, .inl (cI, 48, .inl (va_cpy fl gl 0 0 48))), (th, .inl (cI, 48, .inl gh))] := hD
  have hP := va_P_cg hP 3 fl rfl (cpy_all _ _)
  have hD := va_D_cg hD 3 fl rfl
  have hP : va_P (dC, dI) vwCl [(ql, .inr (3, [.ref lw, .ref hg, .ref tl, .ref th, .int law])), (lw, .inl (cI, 48, .inl fl)), (hg, .inl (cI, 48, .inl fh)), (tl, .inl (cI, 48, .inl fl)), (th, .inl (cI, 48, .inl gh))] H := hP
  have hD : va_D _ [(ql, .inr (3, [.ref lw, .ref hg, .ref tl, .ref th, .int law])), (lw, .inl (cI, 48, .inl fl)), (hg, .inl (cI, 48, .inl fh)), (tl, .inl (cI, 48, .inl fl)), (th, .inl (cI, 48, .inl gh))] := hD
  refine lv_aload_n hx hb dX3_beginTrial_15 rfl (lv_at hl 0 rfl) ?_
  refine va_get (D := (dC, dI)) (ci := 3) (v := .ref hg) (C := RX3) (T := TX3) (N := 5) hx hb hts hiX3 hown hK hP 0 rfl rfl 1 (by decide) (hts (.fieldLink RX3 15 "TributePitches$Lode" "highs" "[I") (by decide +kernel)) (fun _ h9 => h9) rfl dX3_beginTrial_16 ?_
  refine lv_iconst (v := 0) hx hb dX3_beginTrial_19 (by decide) ?_
  refine lv_aload_n hx hb dX3_beginTrial_20 rfl (lv_at hl 0 rfl) ?_
  refine va_get (D := (dC, dI)) (ci := 3) (v := .ref th) (C := RX3) (T := TX3) (N := 5) hx hb hts hiX3 hown hK hP 0 rfl rfl 3 (by decide) (hts (.fieldLink RX3 21 "TributePitches$Lode" "triedHighs" "[I") (by decide +kernel)) (fun _ h9 => h9) rfl dX3_beginTrial_21 ?_
  refine lv_iconst (v := 0) hx hb dX3_beginTrial_24 (by decide) ?_
  refine lv_bipush (v := 48) hx hb dX3_beginTrial_25 (by decide) ?_
  refine va_copyi hx hb (hml.trans hl.1.symm) hown (hts (.methodLink RX3 38 arraycopyName) (by decide +kernel)) (hts (.native arraycopyName) (by decide +kernel)) (hts (.static arraycopyName) (by decide +kernel)) (hts (.initialized "java/lang/System") (by decide +kernel)) hK hP hD hS 2 4 0 0 rfl rfl rfl rfl rfl (by decide) (by decide) (by decide) (by decide) (by decide) (fun _ _ => rfl) (Nat.le_of_ble_eq_true rfl) (Nat.le_of_ble_eq_true rfl) dX3_beginTrial_27 (fun H locs hP hD hS => ?_)
  have hP : va_P (dC, dI) vwCl [(ql, .inr (3, [.ref lw, .ref hg, .ref tl, .ref th, .int law])), (lw, .inl (cI, 48, .inl fl)), (hg, .inl (cI, 48, .inl fh)), (tl, .inl (cI, 48, .inl fl)), (th, .inl (cI, 48, .inl (va_cpy fh gh 0 0 48)))] H := hP
  have hD : va_D _ [(ql, .inr (3, [.ref lw, .ref hg, .ref tl, .ref th, .int law])), (lw, .inl (cI, 48, .inl fl)), (hg, .inl (cI, 48, .inl fh)), (tl, .inl (cI, 48, .inl fl)), (th, .inl (cI, 48, .inl (va_cpy fh gh 0 0 48)))] := hD
  have hP := va_P_cg hP 4 fh rfl (cpy_all _ _)
  have hD := va_D_cg hD 4 fh rfl
  have hP : va_P (dC, dI) vwCl [(ql, .inr (3, [.ref lw, .ref hg, .ref tl, .ref th, .int law])), (lw, .inl (cI, 48, .inl fl)), (hg, .inl (cI, 48, .inl fh)), (tl, .inl (cI, 48, .inl fl)), (th, .inl (cI, 48, .inl fh))] H := hP
  have hD : va_D _ [(ql, .inr (3, [.ref lw, .ref hg, .ref tl, .ref th, .int law])), (lw, .inl (cI, 48, .inl fl)), (hg, .inl (cI, 48, .inl fh)), (tl, .inl (cI, 48, .inl fl)), (th, .inl (cI, 48, .inl fh))] := hD
  subst hQ
  have hP9 := hP.sub (ws' := [(ql, .inr (3, [.ref lw, .ref hg, .ref tl, .ref th, .int law])), (lw, .inl (cI, 48, .inl fl)), (hg, .inl (cI, 48, .inl fh)), (tl, .inl (cI, 48, .inl fl)), (th, .inl (cI, 48, .inl fh))]) [0, 1, 2, 3, 4] rfl
  have hD9 := hD.sub (ws' := [(ql, .inr (3, [.ref lw, .ref hg, .ref tl, .ref th, .int law])), (lw, .inl (cI, 48, .inl fl)), (hg, .inl (cI, 48, .inl fh)), (tl, .inl (cI, 48, .inl fl)), (th, .inl (cI, 48, .inl fh))]) [0, 1, 2, 3, 4] (by decide) rfl
  have hK9 := hK.sub (tys' := [(cI, .int)]) [0] rfl
  exact W.vret hx hb hr (fun t ht hW => ⟨⟨(), rfl, trivial, ⟨by rw [ht]; exact hP9, va_K.moved hW.alike hK9, hD9⟩⟩, hS.F ht⟩) hS.2.2 dX3_beginTrial_30
set_option maxHeartbeats 4000000 in
set_option maxRecDepth 100000 in
theorem s_tryCommon (l : Launch) (dC : Nat → ClassId) (dI : Nat → Nat → Nat) (cI : ClassId) (sz : Nat) (ql : Nat) (tl : Nat) (th : Nat) (a : Nat) (u0 : Value) (u1 : Value) (u4 : Value) (lo : Int32) (hi : Int32) (gl : Nat → Int32) (gh : Nat → Int32) (ha : a < 48) : Met l yX3_tryCommon wsX3_tryCommon ({ frames := 1, cells := 0, slots := 0, locals := 30 }) (pw (dC, dI) [(cI, .int)] [(ql, .inr (3, [u0, u1, .ref tl, .ref th, u4])), (tl, .inl (cI, 48, .inl gl)), (th, .inl (cI, 48, .inl gh))] sz [.ref ql, .int (nI a), .int lo, .int hi]) (va_Qv (fun (_ : Unit) => True) (fun _ t => bw (dC, dI) [(cI, .int)] (va_A [(ql, .inr (3, [u0, u1, .ref tl, .ref th, u4])), (tl, .inl (cI, 48, .inl gl)), (th, .inl (cI, 48, .inl gh))] sz) [(ql, .inr (3, [u0, u1, .ref tl, .ref th, u4])), (tl, .inl (cI, 48, .inl (tcL a lo gl))), (th, .inl (cI, 48, .inl (tcH a hi gh)))] t) (va_A [(ql, .inr (3, [u0, u1, .ref tl, .ref th, u4])), (tl, .inl (cI, 48, .inl gl)), (th, .inl (cI, 48, .inl gh))] sz)) 0 0 (va_A [(ql, .inr (3, [u0, u1, .ref tl, .ref th, u4])), (tl, .inl (cI, 48, .inl gl)), (th, .inl (cI, 48, .inl gh))] sz) := by
  refine pw_met (cc := cX3_tryCommon) (maxL := 4) (ret := none) (by decide) rfl (Nat.le_of_ble_eq_true rfl) ?_
  intro p e s m below meth c0 hx hb hr hml hown hlocks hnm hts hP hK hD hN hsz hA hS ls hl
  subst hsz
  have hl : lv_has ls 4 [(0, .ref ql), (1, .int (nI a)), (2, .int lo), (3, .int hi)] := hl
  have hiX3 : ∀ w ∈ wsX30, w ∈ wsX3_tryCommon := by decide +kernel
  generalize hQ : MQ _ _ _ _ _ _ _ = Q
  refine lv_aload_n hx hb dX3_tryCommon_0 rfl (lv_at hl 0 rfl) ?_
  refine va_get (D := (dC, dI)) (ci := 3) (v := .ref tl) (C := RX3) (T := TX3) (N := 5) hx hb hts hiX3 hown hK hP 0 rfl rfl 2 (by decide) (hts (.fieldLink RX3 18 "TributePitches$Lode" "triedLows" "[I") (by decide +kernel)) (fun _ h9 => h9) rfl dX3_tryCommon_1 ?_
  refine lv_iload_n hx hb dX3_tryCommon_4 rfl (lv_at hl 1 rfl) ?_
  refine lv_aload_n hx hb dX3_tryCommon_5 rfl (lv_at hl 0 rfl) ?_
  refine va_get (D := (dC, dI)) (ci := 3) (v := .ref tl) (C := RX3) (T := TX3) (N := 5) hx hb hts hiX3 hown hK hP 0 rfl rfl 2 (by decide) (hts (.fieldLink RX3 18 "TributePitches$Lode" "triedLows" "[I") (by decide +kernel)) (fun _ h9 => h9) rfl dX3_tryCommon_6 ?_
  refine lv_iload_n hx hb dX3_tryCommon_9 rfl (lv_at hl 1 rfl) ?_
  refine va_iald hx hb hK hP 1 0 rfl rfl (vp_in_nI (by omega) (by omega)) dX3_tryCommon_10 ?_
  refine lv_topi (fun v1 ev1 => ?_)
  have ev1 : v1 = gl a := by rw [ev1]; rw [nI_clamp (by omega)]
  subst ev1
  refine lv_iload_n hx hb dX3_tryCommon_11 rfl (lv_at hl 2 rfl) ?_
  refine va_mmax hx hb (hml.trans hl.1.symm) hown (hts (.methodLink RX3 44 Lib.Math.max.name) (by decide +kernel)) (hts (.static Lib.Math.max.name) (by decide +kernel)) (hts (.initialized "java/lang/Math") (by decide +kernel)) (hts (.code Lib.Math.max.name Lib.Math.max.code 2 (some .int)) (by decide +kernel)) (Nat.le_of_ble_eq_true rfl) (Nat.le_of_ble_eq_true rfl) (Nat.le_of_ble_eq_true rfl) (Nat.le_of_ble_eq_true rfl) dX3_tryCommon_12 ?_
  refine va_iast hx hb hK hP hD hS 1 0 rfl rfl (vp_in_nI (by omega) (by omega)) dX3_tryCommon_15 (fun H locs hP hD hS => ?_)
  rw [nI_clamp (n := a) (by omega)] at hP hD
  have hP : va_P (dC, dI) vwCl [(ql, .inr (3, [u0, u1, .ref tl, .ref th, u4])), (tl, .inl (cI, 48, .inl (upd gl a (if (gl a) < lo then lo else (gl a))))), (th, .inl (cI, 48, .inl gh))] H := hP
  have hD : va_D _ [(ql, .inr (3, [u0, u1, .ref tl, .ref th, u4])), (tl, .inl (cI, 48, .inl (upd gl a (if (gl a) < lo then lo else (gl a))))), (th, .inl (cI, 48, .inl gh))] := hD
  refine lv_aload_n hx hb dX3_tryCommon_16 rfl (lv_at hl 0 rfl) ?_
  refine va_get (D := (dC, dI)) (ci := 3) (v := .ref th) (C := RX3) (T := TX3) (N := 5) hx hb hts hiX3 hown hK hP 0 rfl rfl 3 (by decide) (hts (.fieldLink RX3 21 "TributePitches$Lode" "triedHighs" "[I") (by decide +kernel)) (fun _ h9 => h9) rfl dX3_tryCommon_17 ?_
  refine lv_iload_n hx hb dX3_tryCommon_20 rfl (lv_at hl 1 rfl) ?_
  refine lv_aload_n hx hb dX3_tryCommon_21 rfl (lv_at hl 0 rfl) ?_
  refine va_get (D := (dC, dI)) (ci := 3) (v := .ref th) (C := RX3) (T := TX3) (N := 5) hx hb hts hiX3 hown hK hP 0 rfl rfl 3 (by decide) (hts (.fieldLink RX3 21 "TributePitches$Lode" "triedHighs" "[I") (by decide +kernel)) (fun _ h9 => h9) rfl dX3_tryCommon_22 ?_
  refine lv_iload_n hx hb dX3_tryCommon_25 rfl (lv_at hl 1 rfl) ?_
  refine va_iald hx hb hK hP 2 0 rfl rfl (vp_in_nI (by omega) (by omega)) dX3_tryCommon_26 ?_
  refine lv_topi (fun v2 ev2 => ?_)
  have ev2 : v2 = gh a := by rw [ev2]; rw [nI_clamp (by omega)]
  subst ev2
  refine lv_iload_n hx hb dX3_tryCommon_27 rfl (lv_at hl 3 rfl) ?_
  refine va_mmin hx hb (hml.trans hl.1.symm) hown (hts (.methodLink RX3 50 Lib.Math.min.name) (by decide +kernel)) (hts (.static Lib.Math.min.name) (by decide +kernel)) (hts (.initialized "java/lang/Math") (by decide +kernel)) (hts (.code Lib.Math.min.name Lib.Math.min.code 2 (some .int)) (by decide +kernel)) (Nat.le_of_ble_eq_true rfl) (Nat.le_of_ble_eq_true rfl) (Nat.le_of_ble_eq_true rfl) (Nat.le_of_ble_eq_true rfl) dX3_tryCommon_28 ?_
  refine va_iast hx hb hK hP hD hS 2 0 rfl rfl (vp_in_nI (by omega) (by omega)) dX3_tryCommon_31 (fun H locs hP hD hS => ?_)
  rw [nI_clamp (n := a) (by omega)] at hP hD
  have hP : va_P (dC, dI) vwCl [(ql, .inr (3, [u0, u1, .ref tl, .ref th, u4])), (tl, .inl (cI, 48, .inl (upd gl a (if (gl a) < lo then lo else (gl a))))), (th, .inl (cI, 48, .inl (upd gh a (if hi < (gh a) then hi else (gh a)))))] H := hP
  have hD : va_D _ [(ql, .inr (3, [u0, u1, .ref tl, .ref th, u4])), (tl, .inl (cI, 48, .inl (upd gl a (if (gl a) < lo then lo else (gl a))))), (th, .inl (cI, 48, .inl (upd gh a (if hi < (gh a) then hi else (gh a)))))] := hD
  subst hQ
  have hP9 := hP.sub (ws' := [(ql, .inr (3, [u0, u1, .ref tl, .ref th, u4])), (tl, .inl (cI, 48, .inl (upd gl a (if (gl a) < lo then lo else (gl a))))), (th, .inl (cI, 48, .inl (upd gh a (if hi < (gh a) then hi else (gh a)))))]) [0, 1, 2] rfl
  have hD9 := hD.sub (ws' := [(ql, .inr (3, [u0, u1, .ref tl, .ref th, u4])), (tl, .inl (cI, 48, .inl (upd gl a (if (gl a) < lo then lo else (gl a))))), (th, .inl (cI, 48, .inl (upd gh a (if hi < (gh a) then hi else (gh a)))))]) [0, 1, 2] (by decide) rfl
  have hK9 := hK.sub (tys' := [(cI, .int)]) [0] rfl
  exact W.vret hx hb hr (fun t ht hW => ⟨⟨(), rfl, trivial, ⟨by rw [ht]; exact hP9, va_K.moved hW.alike hK9, hD9⟩⟩, hS.F ht⟩) hS.2.2 dX3_tryCommon_32
set_option maxHeartbeats 4000000 in
set_option maxRecDepth 100000 in
theorem s_tryNeighbour (l : Launch) (dC : Nat → ClassId) (dI : Nat → Nat → Nat) (cI : ClassId) (sz : Nat) (ql : Nat) (tl : Nat) (th : Nat) (a : Nat) (b : Nat) (u0 : Value) (u1 : Value) (u4 : Value) (dd : Int32) (gl : Nat → Int32) (gh : Nat → Int32) (ha : a < 48) (hb : b < 48) : Met l yX3_tryNeighbour wsX3_tryNeighbour ({ frames := 2, cells := 0, slots := 0, locals := 60 }) (pw (dC, dI) [(cI, .int)] [(ql, .inr (3, [u0, u1, .ref tl, .ref th, u4])), (tl, .inl (cI, 48, .inl gl)), (th, .inl (cI, 48, .inl gh))] sz [.ref ql, .int (nI a), .int (nI b), .int dd]) (va_Qv (fun (_ : Unit) => True) (fun _ t => bw (dC, dI) [(cI, .int)] (va_A [(ql, .inr (3, [u0, u1, .ref tl, .ref th, u4])), (tl, .inl (cI, 48, .inl gl)), (th, .inl (cI, 48, .inl gh))] sz) [(ql, .inr (3, [u0, u1, .ref tl, .ref th, u4])), (tl, .inl (cI, 48, .inl (tcL a ((gl b) - dd) gl))), (th, .inl (cI, 48, .inl (tcH a ((gh b) + dd) gh)))] t) (va_A [(ql, .inr (3, [u0, u1, .ref tl, .ref th, u4])), (tl, .inl (cI, 48, .inl gl)), (th, .inl (cI, 48, .inl gh))] sz)) 0 0 (va_A [(ql, .inr (3, [u0, u1, .ref tl, .ref th, u4])), (tl, .inl (cI, 48, .inl gl)), (th, .inl (cI, 48, .inl gh))] sz) := by
  refine pw_met (cc := cX3_tryNeighbour) (maxL := 4) (ret := none) (by decide) rfl (Nat.le_of_ble_eq_true rfl) ?_
  intro p e s m below meth c0 hx hb hr hml hown hlocks hnm hts hP hK hD hN hsz hA hS ls hl
  subst hsz
  have hl : lv_has ls 4 [(0, .ref ql), (1, .int (nI a)), (2, .int (nI b)), (3, .int dd)] := hl
  have hiX3 : ∀ w ∈ wsX30, w ∈ wsX3_tryNeighbour := by decide +kernel
  generalize hQ : MQ _ _ _ _ _ _ _ = Q
  refine lv_aload_n hx hb dX3_tryNeighbour_0 rfl (lv_at hl 0 rfl) ?_
  refine lv_iload_n hx hb dX3_tryNeighbour_1 rfl (lv_at hl 1 rfl) ?_
  refine lv_aload_n hx hb dX3_tryNeighbour_2 rfl (lv_at hl 0 rfl) ?_
  refine va_get (D := (dC, dI)) (ci := 3) (v := .ref tl) (C := RX3) (T := TX3) (N := 5) hx hb hts hiX3 hown hK hP 0 rfl rfl 2 (by decide) (hts (.fieldLink RX3 18 "TributePitches$Lode" "triedLows" "[I") (by decide +kernel)) (fun _ h9 => h9) rfl dX3_tryNeighbour_3 ?_
  refine lv_iload_n hx hb dX3_tryNeighbour_6 rfl (lv_at hl 2 rfl) ?_
  refine va_iald hx hb hK hP 1 0 rfl rfl (vp_in_nI (by omega) (by omega)) dX3_tryNeighbour_7 ?_
  refine lv_topi (fun v1 ev1 => ?_)
  have ev1 : v1 = gl b := by rw [ev1]; rw [nI_clamp (by omega)]
  subst ev1
  refine lv_iload_n hx hb dX3_tryNeighbour_8 rfl (lv_at hl 3 rfl) ?_
  refine lv_isub hx hb dX3_tryNeighbour_9 ?_
  refine lv_aload_n hx hb dX3_tryNeighbour_10 rfl (lv_at hl 0 rfl) ?_
  refine va_get (D := (dC, dI)) (ci := 3) (v := .ref th) (C := RX3) (T := TX3) (N := 5) hx hb hts hiX3 hown hK hP 0 rfl rfl 3 (by decide) (hts (.fieldLink RX3 21 "TributePitches$Lode" "triedHighs" "[I") (by decide +kernel)) (fun _ h9 => h9) rfl dX3_tryNeighbour_11 ?_
  refine lv_iload_n hx hb dX3_tryNeighbour_14 rfl (lv_at hl 2 rfl) ?_
  refine va_iald hx hb hK hP 2 0 rfl rfl (vp_in_nI (by omega) (by omega)) dX3_tryNeighbour_15 ?_
  refine lv_topi (fun v2 ev2 => ?_)
  have ev2 : v2 = gh b := by rw [ev2]; rw [nI_clamp (by omega)]
  subst ev2
  refine lv_iload_n hx hb dX3_tryNeighbour_16 rfl (lv_at hl 3 rfl) ?_
  refine lv_iadd hx hb dX3_tryNeighbour_17 ?_
  have hPc := hP.sub (ws' := [(ql, .inr (3, [u0, u1, .ref tl, .ref th, u4])), (tl, .inl (cI, 48, .inl gl)), (th, .inl (cI, 48, .inl gh))]) [0, 1, 2] rfl
  have hDc := hD.sub (ws' := [(ql, .inr (3, [u0, u1, .ref tl, .ref th, u4])), (tl, .inl (cI, 48, .inl gl)), (th, .inl (cI, 48, .inl gh))]) [0, 1, 2] (by decide) rfl
  have hKc := hK.sub (tys' := [(cI, .int)]) [0] rfl
  have hFc := va_free (wc := [(ql, .inr (3, [u0, u1, .ref tl, .ref th, u4])), (tl, .inl (cI, 48, .inl gl)), (th, .inl (cI, 48, .inl gh))]) hD hS hA [0, 1, 2] rfl
  refine va_callv (va_runV (As := [.int (nI a), .int ((gl b) - dd), .int ((gh b) + dd)]) (rest := []) ⟨hx, hb, hml, hown, hts⟩ (s_tryCommon l dC dI cI _ ql tl th a u0 u1 u4 ((gl b) - dd) ((gh b) + dd) gl gh ha) (cwV 3 hts gX3_tryNeighbour_X3_tryCommon rfl rfl rfl (by decide +kernel) ⟨Nat.le_of_ble_eq_true rfl, Nat.le_of_ble_eq_true rfl⟩) (pw_preV (va_recv hKc hPc (ci := 3) (q0 := 0) rfl rfl) hPc hKc hDc hN) rfl rfl hl.1 rfl (lv_room (Nat.le_of_ble_eq_true rfl)) dX3_tryNeighbour_18 ⟨Nat.le_of_ble_eq_true rfl, Nat.le_of_ble_eq_true rfl⟩) hS (fun q _ h => hFc q h) hFc (fun u t H1 locs ht hvm hw hB hz1 hk1 hS => ?_)
  obtain ⟨hP1, hK1, hD1⟩ := hB
  rw [ht] at hP1
  obtain ⟨hP, hD⟩ := va_join (wr := []) (w1 := [(ql, .inr (3, [u0, u1, .ref tl, .ref th, u4])), (tl, .inl (cI, 48, .inl (tcL a ((gl b) - dd) gl))), (th, .inl (cI, 48, .inl (tcH a ((gh b) + dd) gh)))]) hP hD [0, 1, 2] [] rfl rfl (by decide) (by decide) hk1 hFc hP1 hD1
  generalize H1 = H at hP hS ⊢
  have hP : va_P (dC, dI) vwCl [(ql, .inr (3, [u0, u1, .ref tl, .ref th, u4])), (tl, .inl (cI, 48, .inl (tcL a ((gl b) - dd) gl))), (th, .inl (cI, 48, .inl (tcH a ((gh b) + dd) gh)))] H := hP
  have hD : va_D _ [(ql, .inr (3, [u0, u1, .ref tl, .ref th, u4])), (tl, .inl (cI, 48, .inl (tcL a ((gl b) - dd) gl))), (th, .inl (cI, 48, .inl (tcH a ((gh b) + dd) gh)))] := hD
  subst hQ
  have hP9 := hP.sub (ws' := [(ql, .inr (3, [u0, u1, .ref tl, .ref th, u4])), (tl, .inl (cI, 48, .inl (tcL a ((gl b) - dd) gl))), (th, .inl (cI, 48, .inl (tcH a ((gh b) + dd) gh)))]) [0, 1, 2] rfl
  have hD9 := hD.sub (ws' := [(ql, .inr (3, [u0, u1, .ref tl, .ref th, u4])), (tl, .inl (cI, 48, .inl (tcL a ((gl b) - dd) gl))), (th, .inl (cI, 48, .inl (tcH a ((gh b) + dd) gh)))]) [0, 1, 2] (by decide) rfl
  have hK9 := hK.sub (tys' := [(cI, .int)]) [0] rfl
  exact W.vret hx hb hr (fun t ht hW => ⟨⟨(), rfl, trivial, ⟨by rw [ht]; exact hP9, va_K.moved hW.alike hK9, hD9⟩⟩, hS.F ht⟩) hS.2.2 dX3_tryNeighbour_21
set_option maxHeartbeats 4000000 in
set_option maxRecDepth 100000 in
theorem s_narrowTrial (l : Launch) (dC : Nat → ClassId) (dI : Nat → Nat → Nat) (cI : ClassId) (sz : Nat) (ql : Nat) (tl : Nat) (th : Nat) (u0 : Value) (u1 : Value) (u4 : Value) (dd : Int32) (gl : Nat → Int32) (gh : Nat → Int32)  : Met l yX3_narrowTrial wsX3_narrowTrial ({ frames := 3, cells := 0, slots := 0, locals := 90 }) (pw (dC, dI) [(cI, .int)] [(ql, .inr (3, [u0, u1, .ref tl, .ref th, u4])), (tl, .inl (cI, 48, .inl gl)), (th, .inl (cI, 48, .inl gh))] sz [.ref ql, .int dd]) (va_Qv (fun (_ : Unit) => True) (fun _ t => bw (dC, dI) [(cI, .int)] (va_A [(ql, .inr (3, [u0, u1, .ref tl, .ref th, u4])), (tl, .inl (cI, 48, .inl gl)), (th, .inl (cI, 48, .inl gh))] sz) [(ql, .inr (3, [u0, u1, .ref tl, .ref th, u4])), (tl, .inl (cI, 48, .inl (dnL dd (swL dd gl 48) 48))), (th, .inl (cI, 48, .inl (dnH dd (swH dd gh 48) 48)))] t) (va_A [(ql, .inr (3, [u0, u1, .ref tl, .ref th, u4])), (tl, .inl (cI, 48, .inl gl)), (th, .inl (cI, 48, .inl gh))] sz)) 0 0 (va_A [(ql, .inr (3, [u0, u1, .ref tl, .ref th, u4])), (tl, .inl (cI, 48, .inl gl)), (th, .inl (cI, 48, .inl gh))] sz) := by
  refine pw_met (cc := cX3_narrowTrial) (maxL := 3) (ret := none) (by decide) rfl (Nat.le_of_ble_eq_true rfl) ?_
  intro p e s m below meth c0 hx hb hr hml hown hlocks hnm hts hP hK hD hN hsz hA hS ls hl
  subst hsz
  have hl : lv_has ls 3 [(0, .ref ql), (1, .int dd)] := hl
  generalize hQ : MQ _ _ _ _ _ _ _ = Q
  refine lv_iconst (v := 0) hx hb dX3_narrowTrial_0 (by decide) ?_
  refine lv_istore_n (lv' := [(2, .int 0), (0, .ref ql), (1, .int dd)]) hx hb dX3_narrowTrial_1 rfl hl (by decide) rfl (fun ls hl => ?_)
  have loop2 : ∀ (ni2 i2 : Nat) (al : Nat → Int32) (ah : Nat → Int32) (H : Heap) (locs : List Loc) (ls : Array Slot), i2 ≤ 48 → 48 + 1 ≤ i2 + ni2 → al = swL dd gl i2 → ah = swH dd gh i2 → va_P (dC, dI) vwCl [(ql, .inr (3, [u0, u1, .ref tl, .ref th, u4])), (tl, .inl (cI, 48, .inl al)), (th, .inl (cI, 48, .inl ah))] H → va_D (va_A [(ql, .inr (3, [u0, u1, .ref tl, .ref th, u4])), (tl, .inl (cI, 48, .inl gl)), (th, .inl (cI, 48, .inl gh))] s.heap.size) [(ql, .inr (3, [u0, u1, .ref tl, .ref th, u4])), (tl, .inl (cI, 48, .inl al)), (th, .inl (cI, 48, .inl ah))] → va_S (va_A [(ql, .inr (3, [u0, u1, .ref tl, .ref th, u4])), (tl, .inl (cI, 48, .inl gl)), (th, .inl (cI, 48, .inl gh))] s.heap.size) s.heap H locs → lv_has ls 3 [(2, .int (nI i2)), (0, .ref ql), (1, .int dd)] → W p l e ({ frames := 3, cells := 0, slots := 0, locals := 90 } : Room) s m ([.ref ql, .int dd] : List Value).toArray below meth c0 H locs 0 0 Q (F0 m 2 ls []) := by
    intro ni2
    induction ni2 with
    | zero =>
      intro i2 al ah H locs ls h1 h2
      exact absurd h2 (by omega)
    | succ ni2 ihi2 =>
      intro i2 al ah H locs ls hlei2 hni2 hal hah hP hD hS hl
      refine lv_iload_n hx hb dX3_narrowTrial_2 rfl (lv_at hl 0 rfl) ?_
      refine lv_bipush (v := 48) hx hb dX3_narrowTrial_3 (by decide) ?_
      refine lv_icmp_ge (tgt := 46) hx hb dX3_narrowTrial_5 (by decide) (fun c1 => ?_) (fun c1 => ?_)
      · skip
        have hei2 : i2 = 48 := (Nat.lt_or_ge i2 48).elim (fun q => absurd c1 (show ¬ nI 48 ≤ nI i2 from nI_ge q (by omega))) (fun q => by omega)
        refine lv_bipush (v := 47) hx hb dX3_narrowTrial_46 (by decide) ?_
        refine lv_istore_n (lv' := [(2, .int 47), (0, .ref ql), (1, .int dd)]) hx hb dX3_narrowTrial_48 rfl hl (by decide) rfl (fun ls hl => ?_)
        have loop49 : ∀ (i49 : Nat) (al : Nat → Int32) (ah : Nat → Int32) (H : Heap) (locs : List Loc) (ls : Array Slot), i49 ≤ 48 → al = dnL dd (swL dd gl 48) (48 - i49) → ah = dnH dd (swH dd gh 48) (48 - i49) → va_P (dC, dI) vwCl [(ql, .inr (3, [u0, u1, .ref tl, .ref th, u4])), (tl, .inl (cI, 48, .inl al)), (th, .inl (cI, 48, .inl ah))] H → va_D (va_A [(ql, .inr (3, [u0, u1, .ref tl, .ref th, u4])), (tl, .inl (cI, 48, .inl gl)), (th, .inl (cI, 48, .inl gh))] s.heap.size) [(ql, .inr (3, [u0, u1, .ref tl, .ref th, u4])), (tl, .inl (cI, 48, .inl al)), (th, .inl (cI, 48, .inl ah))] → va_S (va_A [(ql, .inr (3, [u0, u1, .ref tl, .ref th, u4])), (tl, .inl (cI, 48, .inl gl)), (th, .inl (cI, 48, .inl gh))] s.heap.size) s.heap H locs → lv_has ls 3 [(2, .int (dn i49)), (0, .ref ql), (1, .int dd)] → W p l e ({ frames := 3, cells := 0, slots := 0, locals := 90 } : Room) s m ([.ref ql, .int dd] : List Value).toArray below meth c0 H locs 0 0 Q (F0 m 49 ls []) := by
          intro i49
          induction i49 with
          | zero =>
            intro al ah H locs ls hle hal hah hP hD hS hl
            have hl : lv_has ls 3 [(2, .int (-1)), (0, .ref ql), (1, .int dd)] := hl
            refine lv_iload_n hx hb dX3_narrowTrial_49 rfl (lv_at hl 0 rfl) ?_
            refine lv_if_lt (tgt := 93) hx hb dX3_narrowTrial_50 (by decide) (fun c2 => ?_) (fun c2 => ?_)
            · skip
              subst hal
              subst hah
              have hP : va_P (dC, dI) vwCl [(ql, .inr (3, [u0, u1, .ref tl, .ref th, u4])), (tl, .inl (cI, 48, .inl (dnL dd (swL dd gl 48) (48 - 0)))), (th, .inl (cI, 48, .inl (dnH dd (swH dd gh 48) (48 - 0))))] H := hP
              have hD : va_D _ [(ql, .inr (3, [u0, u1, .ref tl, .ref th, u4])), (tl, .inl (cI, 48, .inl (dnL dd (swL dd gl 48) (48 - 0)))), (th, .inl (cI, 48, .inl (dnH dd (swH dd gh 48) (48 - 0))))] := hD
              subst hQ
              have hP9 := hP.sub (ws' := [(ql, .inr (3, [u0, u1, .ref tl, .ref th, u4])), (tl, .inl (cI, 48, .inl (dnL dd (swL dd gl 48) (48 - 0)))), (th, .inl (cI, 48, .inl (dnH dd (swH dd gh 48) (48 - 0))))]) [0, 1, 2] rfl
              have hD9 := hD.sub (ws' := [(ql, .inr (3, [u0, u1, .ref tl, .ref th, u4])), (tl, .inl (cI, 48, .inl (dnL dd (swL dd gl 48) (48 - 0)))), (th, .inl (cI, 48, .inl (dnH dd (swH dd gh 48) (48 - 0))))]) [0, 1, 2] (by decide) rfl
              have hK9 := hK.sub (tys' := [(cI, .int)]) [0] rfl
              exact W.vret hx hb hr (fun t ht hW => ⟨⟨(), rfl, trivial, ⟨by rw [ht]; exact hP9, va_K.moved hW.alike hK9, hD9⟩⟩, hS.F ht⟩) hS.2.2 dX3_narrowTrial_93
            · exact absurd c2 (by decide)
          | succ i49 ih =>
            intro al ah H locs ls hle hal hah hP hD hS hl
            have hl : lv_has ls 3 [(2, .int (nI i49)), (0, .ref ql), (1, .int dd)] := hl
            refine lv_iload_n hx hb dX3_narrowTrial_49 rfl (lv_at hl 0 rfl) ?_
            refine lv_if_lt (tgt := 93) hx hb dX3_narrowTrial_50 (by decide) (fun c3 => ?_) (fun c3 => ?_)
            · exact absurd c3 (nI_pos (by omega))
            · skip
              refine lv_iload_n hx hb dX3_narrowTrial_53 rfl (lv_at hl 0 rfl) ?_
              refine lv_bipush (v := 8) hx hb dX3_narrowTrial_54 (by decide) ?_
              refine lv_irem hx hb dX3_narrowTrial_56 (by decide) ?_
              refine lv_topi (fun v56 ev56 => ?_)
              have ev56 : v56 = nI (i49 % 8) := by rw [ev56]; exact pk_rem (d := 8) (by omega) (by decide) (by decide)
              subst ev56
              refine lv_bipush (v := 7) hx hb dX3_narrowTrial_57 (by decide) ?_
              refine lv_icmp_ge (tgt := 71) hx hb dX3_narrowTrial_59 (by decide) (fun c4 => ?_) (fun c4 => ?_)
              · skip
                have hq1 : ¬ i49 % 8 < 7 := fun q => absurd (show nI 7 ≤ nI (i49 % 8) from c4) (nI_ge q (by omega))
                refine lv_iload_n hx hb dX3_narrowTrial_71 rfl (lv_at hl 0 rfl) ?_
                refine lv_bipush (v := 40) hx hb dX3_narrowTrial_72 (by decide) ?_
                refine lv_icmp_ge (tgt := 87) hx hb dX3_narrowTrial_74 (by decide) (fun c5 => ?_) (fun c5 => ?_)
                · skip
                  have hq2 : ¬ i49 < 40 := fun q => absurd (show nI 40 ≤ nI i49 from c5) (nI_ge q (by omega))
                  refine lv_iinc (v := dn i49) (lv' := [(2, .int (dn i49)), (0, .ref ql), (1, .int dd)]) hx hb dX3_narrowTrial_87 hl (k := 0) rfl (dn_pred i49) (by decide) rfl (fun ls hl => ?_)
                  refine lv_goto (tgt := 49) hx hb dX3_narrowTrial_90 (by decide) ?_
                  exact ih al ah _ _ ls (by omega) (by rw [show 48 - i49 = (48 - (i49 + 1)) + 1 by omega, dnL, ← hal, show 47 - (48 - (i49 + 1)) = i49 by omega]; simp [dn1L, hq1, hq2]) (by rw [show 48 - i49 = (48 - (i49 + 1)) + 1 by omega, dnH, ← hah, show 47 - (48 - (i49 + 1)) = i49 by omega]; simp [dn1H, hq1, hq2]) (hP.sub [0, 1, 2] rfl) (hD.sub [0, 1, 2] (by decide) rfl) hS (lv_sub hl [0, 1, 2] rfl)
                · skip
                  have hq2 : i49 < 40 := (Nat.lt_or_ge i49 40).elim id (fun q => absurd (show nI 40 ≤ nI i49 from nI_le q (by omega)) c5)
                  refine lv_aload_n hx hb dX3_narrowTrial_77 rfl (lv_at hl 1 rfl) ?_
                  refine lv_iload_n hx hb dX3_narrowTrial_78 rfl (lv_at hl 0 rfl) ?_
                  refine lv_iload_n hx hb dX3_narrowTrial_79 rfl (lv_at hl 0 rfl) ?_
                  refine lv_bipush (v := 8) hx hb dX3_narrowTrial_80 (by decide) ?_
                  refine lv_iadd hx hb dX3_narrowTrial_82 ?_
                  refine lv_topi (fun v82 ev82 => ?_)
                  have ev82 : v82 = nI (i49 + 8) := by rw [ev82]; exact nI_add i49 8
                  subst ev82
                  refine lv_iload_n hx hb dX3_narrowTrial_83 rfl (lv_at hl 2 rfl) ?_
                  have hPc := hP.sub (ws' := [(ql, .inr (3, [u0, u1, .ref tl, .ref th, u4])), (tl, .inl (cI, 48, .inl al)), (th, .inl (cI, 48, .inl ah))]) [0, 1, 2] rfl
                  have hDc := hD.sub (ws' := [(ql, .inr (3, [u0, u1, .ref tl, .ref th, u4])), (tl, .inl (cI, 48, .inl al)), (th, .inl (cI, 48, .inl ah))]) [0, 1, 2] (by decide) rfl
                  have hKc := hK.sub (tys' := [(cI, .int)]) [0] rfl
                  have hFc := va_free (wc := [(ql, .inr (3, [u0, u1, .ref tl, .ref th, u4])), (tl, .inl (cI, 48, .inl al)), (th, .inl (cI, 48, .inl ah))]) hD hS hA [0, 1, 2] rfl
                  refine va_callv (va_runV (As := [.int (nI i49), .int (nI (i49 + 8)), .int dd]) (rest := []) ⟨hx, hb, hml, hown, hts⟩ (s_tryNeighbour l dC dI cI _ ql tl th (i49) (i49 + 8) u0 u1 u4 dd al ah (by omega) (by omega)) (cwV 3 hts gX3_narrowTrial_X3_tryNeighbour rfl rfl rfl (by decide +kernel) ⟨Nat.le_of_ble_eq_true rfl, Nat.le_of_ble_eq_true rfl⟩) (pw_preV (va_recv hKc hPc (ci := 3) (q0 := 0) rfl rfl) hPc hKc hDc hN) rfl rfl hl.1 rfl (lv_room (Nat.le_of_ble_eq_true rfl)) dX3_narrowTrial_84 ⟨Nat.le_of_ble_eq_true rfl, Nat.le_of_ble_eq_true rfl⟩) hS (fun q _ h => hFc q h) hFc (fun u t H1 locs ht hvm hw hB hz1 hk1 hS => ?_)
                  obtain ⟨hP1, hK1, hD1⟩ := hB
                  rw [ht] at hP1
                  obtain ⟨hP, hD⟩ := va_join (wr := []) (w1 := [(ql, .inr (3, [u0, u1, .ref tl, .ref th, u4])), (tl, .inl (cI, 48, .inl (tcL (i49) ((al (i49 + 8)) - dd) al))), (th, .inl (cI, 48, .inl (tcH (i49) ((ah (i49 + 8)) + dd) ah)))]) hP hD [0, 1, 2] [] rfl rfl (by decide) (by decide) hk1 hFc hP1 hD1
                  generalize H1 = H at hP hS ⊢
                  have hP : va_P (dC, dI) vwCl [(ql, .inr (3, [u0, u1, .ref tl, .ref th, u4])), (tl, .inl (cI, 48, .inl (tcL (i49) ((al (i49 + 8)) - dd) al))), (th, .inl (cI, 48, .inl (tcH (i49) ((ah (i49 + 8)) + dd) ah)))] H := hP
                  have hD : va_D _ [(ql, .inr (3, [u0, u1, .ref tl, .ref th, u4])), (tl, .inl (cI, 48, .inl (tcL (i49) ((al (i49 + 8)) - dd) al))), (th, .inl (cI, 48, .inl (tcH (i49) ((ah (i49 + 8)) + dd) ah)))] := hD
                  refine lv_iinc (v := dn i49) (lv' := [(2, .int (dn i49)), (0, .ref ql), (1, .int dd)]) hx hb dX3_narrowTrial_87 hl (k := 0) rfl (dn_pred i49) (by decide) rfl (fun ls hl => ?_)
                  refine lv_goto (tgt := 49) hx hb dX3_narrowTrial_90 (by decide) ?_
                  exact ih (tcL (i49) ((al (i49 + 8)) - dd) al) (tcH (i49) ((ah (i49 + 8)) + dd) ah) _ _ ls (by omega) (by rw [show 48 - i49 = (48 - (i49 + 1)) + 1 by omega, dnL, ← hal, show 47 - (48 - (i49 + 1)) = i49 by omega]; simp [dn1L, hq1, hq2]) (by rw [show 48 - i49 = (48 - (i49 + 1)) + 1 by omega, dnH, ← hah, show 47 - (48 - (i49 + 1)) = i49 by omega]; simp [dn1H, hq1, hq2]) (hP.sub [0, 1, 2] rfl) (hD.sub [0, 1, 2] (by decide) rfl) hS (lv_sub hl [0, 1, 2] rfl)
              · skip
                have hq1 : i49 % 8 < 7 := (Nat.lt_or_ge (i49 % 8) 7).elim id (fun q => absurd (show nI 7 ≤ nI (i49 % 8) from nI_le q (by omega)) c4)
                refine lv_aload_n hx hb dX3_narrowTrial_62 rfl (lv_at hl 1 rfl) ?_
                refine lv_iload_n hx hb dX3_narrowTrial_63 rfl (lv_at hl 0 rfl) ?_
                refine lv_iload_n hx hb dX3_narrowTrial_64 rfl (lv_at hl 0 rfl) ?_
                refine lv_iconst (v := 1) hx hb dX3_narrowTrial_65 (by decide) ?_
                refine lv_iadd hx hb dX3_narrowTrial_66 ?_
                refine lv_topi (fun v66 ev66 => ?_)
                have ev66 : v66 = nI (i49 + 1) := by rw [ev66]; exact nI_1 i49
                subst ev66
                refine lv_iload_n hx hb dX3_narrowTrial_67 rfl (lv_at hl 2 rfl) ?_
                have hPc := hP.sub (ws' := [(ql, .inr (3, [u0, u1, .ref tl, .ref th, u4])), (tl, .inl (cI, 48, .inl al)), (th, .inl (cI, 48, .inl ah))]) [0, 1, 2] rfl
                have hDc := hD.sub (ws' := [(ql, .inr (3, [u0, u1, .ref tl, .ref th, u4])), (tl, .inl (cI, 48, .inl al)), (th, .inl (cI, 48, .inl ah))]) [0, 1, 2] (by decide) rfl
                have hKc := hK.sub (tys' := [(cI, .int)]) [0] rfl
                have hFc := va_free (wc := [(ql, .inr (3, [u0, u1, .ref tl, .ref th, u4])), (tl, .inl (cI, 48, .inl al)), (th, .inl (cI, 48, .inl ah))]) hD hS hA [0, 1, 2] rfl
                refine va_callv (va_runV (As := [.int (nI i49), .int (nI (i49 + 1)), .int dd]) (rest := []) ⟨hx, hb, hml, hown, hts⟩ (s_tryNeighbour l dC dI cI _ ql tl th (i49) (i49 + 1) u0 u1 u4 dd al ah (by omega) (by omega)) (cwV 3 hts gX3_narrowTrial_X3_tryNeighbour rfl rfl rfl (by decide +kernel) ⟨Nat.le_of_ble_eq_true rfl, Nat.le_of_ble_eq_true rfl⟩) (pw_preV (va_recv hKc hPc (ci := 3) (q0 := 0) rfl rfl) hPc hKc hDc hN) rfl rfl hl.1 rfl (lv_room (Nat.le_of_ble_eq_true rfl)) dX3_narrowTrial_68 ⟨Nat.le_of_ble_eq_true rfl, Nat.le_of_ble_eq_true rfl⟩) hS (fun q _ h => hFc q h) hFc (fun u t H1 locs ht hvm hw hB hz1 hk1 hS => ?_)
                obtain ⟨hP1, hK1, hD1⟩ := hB
                rw [ht] at hP1
                obtain ⟨hP, hD⟩ := va_join (wr := []) (w1 := [(ql, .inr (3, [u0, u1, .ref tl, .ref th, u4])), (tl, .inl (cI, 48, .inl (tcL (i49) ((al (i49 + 1)) - dd) al))), (th, .inl (cI, 48, .inl (tcH (i49) ((ah (i49 + 1)) + dd) ah)))]) hP hD [0, 1, 2] [] rfl rfl (by decide) (by decide) hk1 hFc hP1 hD1
                generalize H1 = H at hP hS ⊢
                have hP : va_P (dC, dI) vwCl [(ql, .inr (3, [u0, u1, .ref tl, .ref th, u4])), (tl, .inl (cI, 48, .inl (tcL (i49) ((al (i49 + 1)) - dd) al))), (th, .inl (cI, 48, .inl (tcH (i49) ((ah (i49 + 1)) + dd) ah)))] H := hP
                have hD : va_D _ [(ql, .inr (3, [u0, u1, .ref tl, .ref th, u4])), (tl, .inl (cI, 48, .inl (tcL (i49) ((al (i49 + 1)) - dd) al))), (th, .inl (cI, 48, .inl (tcH (i49) ((ah (i49 + 1)) + dd) ah)))] := hD
                refine lv_iload_n hx hb dX3_narrowTrial_71 rfl (lv_at hl 0 rfl) ?_
                refine lv_bipush (v := 40) hx hb dX3_narrowTrial_72 (by decide) ?_
                refine lv_icmp_ge (tgt := 87) hx hb dX3_narrowTrial_74 (by decide) (fun c8 => ?_) (fun c8 => ?_)
                · skip
                  have hq2 : ¬ i49 < 40 := fun q => absurd (show nI 40 ≤ nI i49 from c8) (nI_ge q (by omega))
                  refine lv_iinc (v := dn i49) (lv' := [(2, .int (dn i49)), (0, .ref ql), (1, .int dd)]) hx hb dX3_narrowTrial_87 hl (k := 0) rfl (dn_pred i49) (by decide) rfl (fun ls hl => ?_)
                  refine lv_goto (tgt := 49) hx hb dX3_narrowTrial_90 (by decide) ?_
                  exact ih (tcL (i49) ((al (i49 + 1)) - dd) al) (tcH (i49) ((ah (i49 + 1)) + dd) ah) _ _ ls (by omega) (by rw [show 48 - i49 = (48 - (i49 + 1)) + 1 by omega, dnL, ← hal, show 47 - (48 - (i49 + 1)) = i49 by omega]; simp [dn1L, hq1, hq2]) (by rw [show 48 - i49 = (48 - (i49 + 1)) + 1 by omega, dnH, ← hah, show 47 - (48 - (i49 + 1)) = i49 by omega]; simp [dn1H, hq1, hq2]) (hP.sub [0, 1, 2] rfl) (hD.sub [0, 1, 2] (by decide) rfl) hS (lv_sub hl [0, 1, 2] rfl)
                · skip
                  have hq2 : i49 < 40 := (Nat.lt_or_ge i49 40).elim id (fun q => absurd (show nI 40 ≤ nI i49 from nI_le q (by omega)) c8)
                  refine lv_aload_n hx hb dX3_narrowTrial_77 rfl (lv_at hl 1 rfl) ?_
                  refine lv_iload_n hx hb dX3_narrowTrial_78 rfl (lv_at hl 0 rfl) ?_
                  refine lv_iload_n hx hb dX3_narrowTrial_79 rfl (lv_at hl 0 rfl) ?_
                  refine lv_bipush (v := 8) hx hb dX3_narrowTrial_80 (by decide) ?_
                  refine lv_iadd hx hb dX3_narrowTrial_82 ?_
                  refine lv_topi (fun v82 ev82 => ?_)
                  have ev82 : v82 = nI (i49 + 8) := by rw [ev82]; exact nI_add i49 8
                  subst ev82
                  refine lv_iload_n hx hb dX3_narrowTrial_83 rfl (lv_at hl 2 rfl) ?_
                  have hPc := hP.sub (ws' := [(ql, .inr (3, [u0, u1, .ref tl, .ref th, u4])), (tl, .inl (cI, 48, .inl (tcL (i49) ((al (i49 + 1)) - dd) al))), (th, .inl (cI, 48, .inl (tcH (i49) ((ah (i49 + 1)) + dd) ah)))]) [0, 1, 2] rfl
                  have hDc := hD.sub (ws' := [(ql, .inr (3, [u0, u1, .ref tl, .ref th, u4])), (tl, .inl (cI, 48, .inl (tcL (i49) ((al (i49 + 1)) - dd) al))), (th, .inl (cI, 48, .inl (tcH (i49) ((ah (i49 + 1)) + dd) ah)))]) [0, 1, 2] (by decide) rfl
                  have hKc := hK.sub (tys' := [(cI, .int)]) [0] rfl
                  have hFc := va_free (wc := [(ql, .inr (3, [u0, u1, .ref tl, .ref th, u4])), (tl, .inl (cI, 48, .inl (tcL (i49) ((al (i49 + 1)) - dd) al))), (th, .inl (cI, 48, .inl (tcH (i49) ((ah (i49 + 1)) + dd) ah)))]) hD hS hA [0, 1, 2] rfl
                  refine va_callv (va_runV (As := [.int (nI i49), .int (nI (i49 + 8)), .int dd]) (rest := []) ⟨hx, hb, hml, hown, hts⟩ (s_tryNeighbour l dC dI cI _ ql tl th (i49) (i49 + 8) u0 u1 u4 dd (tcL (i49) ((al (i49 + 1)) - dd) al) (tcH (i49) ((ah (i49 + 1)) + dd) ah) (by omega) (by omega)) (cwV 3 hts gX3_narrowTrial_X3_tryNeighbour rfl rfl rfl (by decide +kernel) ⟨Nat.le_of_ble_eq_true rfl, Nat.le_of_ble_eq_true rfl⟩) (pw_preV (va_recv hKc hPc (ci := 3) (q0 := 0) rfl rfl) hPc hKc hDc hN) rfl rfl hl.1 rfl (lv_room (Nat.le_of_ble_eq_true rfl)) dX3_narrowTrial_84 ⟨Nat.le_of_ble_eq_true rfl, Nat.le_of_ble_eq_true rfl⟩) hS (fun q _ h => hFc q h) hFc (fun u t H1 locs ht hvm hw hB hz1 hk1 hS => ?_)
                  obtain ⟨hP1, hK1, hD1⟩ := hB
                  rw [ht] at hP1
                  obtain ⟨hP, hD⟩ := va_join (wr := []) (w1 := [(ql, .inr (3, [u0, u1, .ref tl, .ref th, u4])), (tl, .inl (cI, 48, .inl (tcL (i49) (((tcL (i49) ((al (i49 + 1)) - dd) al) (i49 + 8)) - dd) (tcL (i49) ((al (i49 + 1)) - dd) al)))), (th, .inl (cI, 48, .inl (tcH (i49) (((tcH (i49) ((ah (i49 + 1)) + dd) ah) (i49 + 8)) + dd) (tcH (i49) ((ah (i49 + 1)) + dd) ah))))]) hP hD [0, 1, 2] [] rfl rfl (by decide) (by decide) hk1 hFc hP1 hD1
                  generalize H1 = H at hP hS ⊢
                  have hP : va_P (dC, dI) vwCl [(ql, .inr (3, [u0, u1, .ref tl, .ref th, u4])), (tl, .inl (cI, 48, .inl (tcL (i49) (((tcL (i49) ((al (i49 + 1)) - dd) al) (i49 + 8)) - dd) (tcL (i49) ((al (i49 + 1)) - dd) al)))), (th, .inl (cI, 48, .inl (tcH (i49) (((tcH (i49) ((ah (i49 + 1)) + dd) ah) (i49 + 8)) + dd) (tcH (i49) ((ah (i49 + 1)) + dd) ah))))] H := hP
                  have hD : va_D _ [(ql, .inr (3, [u0, u1, .ref tl, .ref th, u4])), (tl, .inl (cI, 48, .inl (tcL (i49) (((tcL (i49) ((al (i49 + 1)) - dd) al) (i49 + 8)) - dd) (tcL (i49) ((al (i49 + 1)) - dd) al)))), (th, .inl (cI, 48, .inl (tcH (i49) (((tcH (i49) ((ah (i49 + 1)) + dd) ah) (i49 + 8)) + dd) (tcH (i49) ((ah (i49 + 1)) + dd) ah))))] := hD
                  refine lv_iinc (v := dn i49) (lv' := [(2, .int (dn i49)), (0, .ref ql), (1, .int dd)]) hx hb dX3_narrowTrial_87 hl (k := 0) rfl (dn_pred i49) (by decide) rfl (fun ls hl => ?_)
                  refine lv_goto (tgt := 49) hx hb dX3_narrowTrial_90 (by decide) ?_
                  exact ih (tcL (i49) (((tcL (i49) ((al (i49 + 1)) - dd) al) (i49 + 8)) - dd) (tcL (i49) ((al (i49 + 1)) - dd) al)) (tcH (i49) (((tcH (i49) ((ah (i49 + 1)) + dd) ah) (i49 + 8)) + dd) (tcH (i49) ((ah (i49 + 1)) + dd) ah)) _ _ ls (by omega) (by rw [show 48 - i49 = (48 - (i49 + 1)) + 1 by omega, dnL, ← hal, show 47 - (48 - (i49 + 1)) = i49 by omega]; simp [dn1L, hq1, hq2]) (by rw [show 48 - i49 = (48 - (i49 + 1)) + 1 by omega, dnH, ← hah, show 47 - (48 - (i49 + 1)) = i49 by omega]; simp [dn1H, hq1, hq2]) (hP.sub [0, 1, 2] rfl) (hD.sub [0, 1, 2] (by decide) rfl) hS (lv_sub hl [0, 1, 2] rfl)
        exact loop49 48 al ah _ _ ls (by omega) (by rw [hal, hei2]; rfl) (by rw [hah, hei2]; rfl) hP hD hS (lv_sub hl [0, 1, 2] rfl)
      · skip
        have hlti2 : i2 < 48 := (Nat.lt_or_ge i2 48).elim id (fun q => absurd (show nI 48 ≤ nI i2 from nI_le q (by omega)) c1)
        refine lv_iload_n hx hb dX3_narrowTrial_8 rfl (lv_at hl 0 rfl) ?_
        refine lv_bipush (v := 8) hx hb dX3_narrowTrial_9 (by decide) ?_
        refine lv_irem hx hb dX3_narrowTrial_11 (by decide) ?_
        refine lv_topi (fun v11 ev11 => ?_)
        have ev11 : v11 = nI (i2 % 8) := by rw [ev11]; exact pk_rem (d := 8) (by omega) (by decide) (by decide)
        subst ev11
        refine lv_if_le (tgt := 24) hx hb dX3_narrowTrial_12 (by decide) (fun c10 => ?_) (fun c10 => ?_)
        · skip
          have hq1 : ¬ 0 < i2 % 8 := fun q => by have z := (nI_leI (a := i2 % 8) (b := 0) (by omega) (by omega)).mp c10; omega
          refine lv_iload_n hx hb dX3_narrowTrial_24 rfl (lv_at hl 0 rfl) ?_
          refine lv_bipush (v := 8) hx hb dX3_narrowTrial_25 (by decide) ?_
          refine lv_icmp_lt (tgt := 40) hx hb dX3_narrowTrial_27 (by decide) (fun c11 => ?_) (fun c11 => ?_)
          · skip
            have hq2 : ¬ 8 ≤ i2 := fun q => absurd (show nI i2 < nI 8 from c11) (nI_nlt q (by omega))
            refine lv_iinc (v := nI (i2 + 1)) (lv' := [(2, .int (nI (i2 + 1))), (0, .ref ql), (1, .int dd)]) hx hb dX3_narrowTrial_40 hl (k := 0) rfl (nI_1 i2) (by decide) rfl (fun ls hl => ?_)
            refine lv_goto (tgt := 2) hx hb dX3_narrowTrial_43 (by decide) ?_
            exact ihi2 (i2 + 1) al ah _ _ ls (by omega) (by omega) (by rw [hal, swL]; simp [sw1L, hq1, hq2]) (by rw [hah, swH]; simp [sw1H, hq1, hq2]) (hP.sub [0, 1, 2] rfl) (hD.sub [0, 1, 2] (by decide) rfl) hS (lv_sub hl [0, 1, 2] rfl)
          · skip
            have hq2 : 8 ≤ i2 := (Nat.lt_or_ge i2 8).elim (fun q => absurd (show nI i2 < nI 8 from nI_lt q (by omega)) c11) id
            refine lv_aload_n hx hb dX3_narrowTrial_30 rfl (lv_at hl 1 rfl) ?_
            refine lv_iload_n hx hb dX3_narrowTrial_31 rfl (lv_at hl 0 rfl) ?_
            refine lv_iload_n hx hb dX3_narrowTrial_32 rfl (lv_at hl 0 rfl) ?_
            refine lv_bipush (v := 8) hx hb dX3_narrowTrial_33 (by decide) ?_
            refine lv_isub hx hb dX3_narrowTrial_35 ?_
            refine lv_topi (fun v35 ev35 => ?_)
            have ev35 : v35 = nI (i2 - 8) := by rw [ev35]; exact pk_sub (b := 8) (by omega)
            subst ev35
            refine lv_iload_n hx hb dX3_narrowTrial_36 rfl (lv_at hl 2 rfl) ?_
            have hPc := hP.sub (ws' := [(ql, .inr (3, [u0, u1, .ref tl, .ref th, u4])), (tl, .inl (cI, 48, .inl al)), (th, .inl (cI, 48, .inl ah))]) [0, 1, 2] rfl
            have hDc := hD.sub (ws' := [(ql, .inr (3, [u0, u1, .ref tl, .ref th, u4])), (tl, .inl (cI, 48, .inl al)), (th, .inl (cI, 48, .inl ah))]) [0, 1, 2] (by decide) rfl
            have hKc := hK.sub (tys' := [(cI, .int)]) [0] rfl
            have hFc := va_free (wc := [(ql, .inr (3, [u0, u1, .ref tl, .ref th, u4])), (tl, .inl (cI, 48, .inl al)), (th, .inl (cI, 48, .inl ah))]) hD hS hA [0, 1, 2] rfl
            refine va_callv (va_runV (As := [.int (nI i2), .int (nI (i2 - 8)), .int dd]) (rest := []) ⟨hx, hb, hml, hown, hts⟩ (s_tryNeighbour l dC dI cI _ ql tl th (i2) (i2 - 8) u0 u1 u4 dd al ah (by omega) (by omega)) (cwV 3 hts gX3_narrowTrial_X3_tryNeighbour rfl rfl rfl (by decide +kernel) ⟨Nat.le_of_ble_eq_true rfl, Nat.le_of_ble_eq_true rfl⟩) (pw_preV (va_recv hKc hPc (ci := 3) (q0 := 0) rfl rfl) hPc hKc hDc hN) rfl rfl hl.1 rfl (lv_room (Nat.le_of_ble_eq_true rfl)) dX3_narrowTrial_37 ⟨Nat.le_of_ble_eq_true rfl, Nat.le_of_ble_eq_true rfl⟩) hS (fun q _ h => hFc q h) hFc (fun u t H1 locs ht hvm hw hB hz1 hk1 hS => ?_)
            obtain ⟨hP1, hK1, hD1⟩ := hB
            rw [ht] at hP1
            obtain ⟨hP, hD⟩ := va_join (wr := []) (w1 := [(ql, .inr (3, [u0, u1, .ref tl, .ref th, u4])), (tl, .inl (cI, 48, .inl (tcL (i2) ((al (i2 - 8)) - dd) al))), (th, .inl (cI, 48, .inl (tcH (i2) ((ah (i2 - 8)) + dd) ah)))]) hP hD [0, 1, 2] [] rfl rfl (by decide) (by decide) hk1 hFc hP1 hD1
            generalize H1 = H at hP hS ⊢
            have hP : va_P (dC, dI) vwCl [(ql, .inr (3, [u0, u1, .ref tl, .ref th, u4])), (tl, .inl (cI, 48, .inl (tcL (i2) ((al (i2 - 8)) - dd) al))), (th, .inl (cI, 48, .inl (tcH (i2) ((ah (i2 - 8)) + dd) ah)))] H := hP
            have hD : va_D _ [(ql, .inr (3, [u0, u1, .ref tl, .ref th, u4])), (tl, .inl (cI, 48, .inl (tcL (i2) ((al (i2 - 8)) - dd) al))), (th, .inl (cI, 48, .inl (tcH (i2) ((ah (i2 - 8)) + dd) ah)))] := hD
            refine lv_iinc (v := nI (i2 + 1)) (lv' := [(2, .int (nI (i2 + 1))), (0, .ref ql), (1, .int dd)]) hx hb dX3_narrowTrial_40 hl (k := 0) rfl (nI_1 i2) (by decide) rfl (fun ls hl => ?_)
            refine lv_goto (tgt := 2) hx hb dX3_narrowTrial_43 (by decide) ?_
            exact ihi2 (i2 + 1) (tcL (i2) ((al (i2 - 8)) - dd) al) (tcH (i2) ((ah (i2 - 8)) + dd) ah) _ _ ls (by omega) (by omega) (by rw [hal, swL]; simp [sw1L, hq1, hq2]) (by rw [hah, swH]; simp [sw1H, hq1, hq2]) (hP.sub [0, 1, 2] rfl) (hD.sub [0, 1, 2] (by decide) rfl) hS (lv_sub hl [0, 1, 2] rfl)
        · skip
          have hq1 : 0 < i2 % 8 := Nat.pos_of_ne_zero fun q => c10 (by rw [q]; decide)
          refine lv_aload_n hx hb dX3_narrowTrial_15 rfl (lv_at hl 1 rfl) ?_
          refine lv_iload_n hx hb dX3_narrowTrial_16 rfl (lv_at hl 0 rfl) ?_
          refine lv_iload_n hx hb dX3_narrowTrial_17 rfl (lv_at hl 0 rfl) ?_
          refine lv_iconst (v := 1) hx hb dX3_narrowTrial_18 (by decide) ?_
          refine lv_isub hx hb dX3_narrowTrial_19 ?_
          refine lv_topi (fun v19 ev19 => ?_)
          have ev19 : v19 = nI (i2 - 1) := by rw [ev19]; exact pk_sub (b := 1) (by omega)
          subst ev19
          refine lv_iload_n hx hb dX3_narrowTrial_20 rfl (lv_at hl 2 rfl) ?_
          have hPc := hP.sub (ws' := [(ql, .inr (3, [u0, u1, .ref tl, .ref th, u4])), (tl, .inl (cI, 48, .inl al)), (th, .inl (cI, 48, .inl ah))]) [0, 1, 2] rfl
          have hDc := hD.sub (ws' := [(ql, .inr (3, [u0, u1, .ref tl, .ref th, u4])), (tl, .inl (cI, 48, .inl al)), (th, .inl (cI, 48, .inl ah))]) [0, 1, 2] (by decide) rfl
          have hKc := hK.sub (tys' := [(cI, .int)]) [0] rfl
          have hFc := va_free (wc := [(ql, .inr (3, [u0, u1, .ref tl, .ref th, u4])), (tl, .inl (cI, 48, .inl al)), (th, .inl (cI, 48, .inl ah))]) hD hS hA [0, 1, 2] rfl
          refine va_callv (va_runV (As := [.int (nI i2), .int (nI (i2 - 1)), .int dd]) (rest := []) ⟨hx, hb, hml, hown, hts⟩ (s_tryNeighbour l dC dI cI _ ql tl th (i2) (i2 - 1) u0 u1 u4 dd al ah (by omega) (by omega)) (cwV 3 hts gX3_narrowTrial_X3_tryNeighbour rfl rfl rfl (by decide +kernel) ⟨Nat.le_of_ble_eq_true rfl, Nat.le_of_ble_eq_true rfl⟩) (pw_preV (va_recv hKc hPc (ci := 3) (q0 := 0) rfl rfl) hPc hKc hDc hN) rfl rfl hl.1 rfl (lv_room (Nat.le_of_ble_eq_true rfl)) dX3_narrowTrial_21 ⟨Nat.le_of_ble_eq_true rfl, Nat.le_of_ble_eq_true rfl⟩) hS (fun q _ h => hFc q h) hFc (fun u t H1 locs ht hvm hw hB hz1 hk1 hS => ?_)
          obtain ⟨hP1, hK1, hD1⟩ := hB
          rw [ht] at hP1
          obtain ⟨hP, hD⟩ := va_join (wr := []) (w1 := [(ql, .inr (3, [u0, u1, .ref tl, .ref th, u4])), (tl, .inl (cI, 48, .inl (tcL (i2) ((al (i2 - 1)) - dd) al))), (th, .inl (cI, 48, .inl (tcH (i2) ((ah (i2 - 1)) + dd) ah)))]) hP hD [0, 1, 2] [] rfl rfl (by decide) (by decide) hk1 hFc hP1 hD1
          generalize H1 = H at hP hS ⊢
          have hP : va_P (dC, dI) vwCl [(ql, .inr (3, [u0, u1, .ref tl, .ref th, u4])), (tl, .inl (cI, 48, .inl (tcL (i2) ((al (i2 - 1)) - dd) al))), (th, .inl (cI, 48, .inl (tcH (i2) ((ah (i2 - 1)) + dd) ah)))] H := hP
          have hD : va_D _ [(ql, .inr (3, [u0, u1, .ref tl, .ref th, u4])), (tl, .inl (cI, 48, .inl (tcL (i2) ((al (i2 - 1)) - dd) al))), (th, .inl (cI, 48, .inl (tcH (i2) ((ah (i2 - 1)) + dd) ah)))] := hD
          refine lv_iload_n hx hb dX3_narrowTrial_24 rfl (lv_at hl 0 rfl) ?_
          refine lv_bipush (v := 8) hx hb dX3_narrowTrial_25 (by decide) ?_
          refine lv_icmp_lt (tgt := 40) hx hb dX3_narrowTrial_27 (by decide) (fun c14 => ?_) (fun c14 => ?_)
          · skip
            have hq2 : ¬ 8 ≤ i2 := fun q => absurd (show nI i2 < nI 8 from c14) (nI_nlt q (by omega))
            refine lv_iinc (v := nI (i2 + 1)) (lv' := [(2, .int (nI (i2 + 1))), (0, .ref ql), (1, .int dd)]) hx hb dX3_narrowTrial_40 hl (k := 0) rfl (nI_1 i2) (by decide) rfl (fun ls hl => ?_)
            refine lv_goto (tgt := 2) hx hb dX3_narrowTrial_43 (by decide) ?_
            exact ihi2 (i2 + 1) (tcL (i2) ((al (i2 - 1)) - dd) al) (tcH (i2) ((ah (i2 - 1)) + dd) ah) _ _ ls (by omega) (by omega) (by rw [hal, swL]; simp [sw1L, hq1, hq2]) (by rw [hah, swH]; simp [sw1H, hq1, hq2]) (hP.sub [0, 1, 2] rfl) (hD.sub [0, 1, 2] (by decide) rfl) hS (lv_sub hl [0, 1, 2] rfl)
          · skip
            have hq2 : 8 ≤ i2 := (Nat.lt_or_ge i2 8).elim (fun q => absurd (show nI i2 < nI 8 from nI_lt q (by omega)) c14) id
            refine lv_aload_n hx hb dX3_narrowTrial_30 rfl (lv_at hl 1 rfl) ?_
            refine lv_iload_n hx hb dX3_narrowTrial_31 rfl (lv_at hl 0 rfl) ?_
            refine lv_iload_n hx hb dX3_narrowTrial_32 rfl (lv_at hl 0 rfl) ?_
            refine lv_bipush (v := 8) hx hb dX3_narrowTrial_33 (by decide) ?_
            refine lv_isub hx hb dX3_narrowTrial_35 ?_
            refine lv_topi (fun v35 ev35 => ?_)
            have ev35 : v35 = nI (i2 - 8) := by rw [ev35]; exact pk_sub (b := 8) (by omega)
            subst ev35
            refine lv_iload_n hx hb dX3_narrowTrial_36 rfl (lv_at hl 2 rfl) ?_
            have hPc := hP.sub (ws' := [(ql, .inr (3, [u0, u1, .ref tl, .ref th, u4])), (tl, .inl (cI, 48, .inl (tcL (i2) ((al (i2 - 1)) - dd) al))), (th, .inl (cI, 48, .inl (tcH (i2) ((ah (i2 - 1)) + dd) ah)))]) [0, 1, 2] rfl
            have hDc := hD.sub (ws' := [(ql, .inr (3, [u0, u1, .ref tl, .ref th, u4])), (tl, .inl (cI, 48, .inl (tcL (i2) ((al (i2 - 1)) - dd) al))), (th, .inl (cI, 48, .inl (tcH (i2) ((ah (i2 - 1)) + dd) ah)))]) [0, 1, 2] (by decide) rfl
            have hKc := hK.sub (tys' := [(cI, .int)]) [0] rfl
            have hFc := va_free (wc := [(ql, .inr (3, [u0, u1, .ref tl, .ref th, u4])), (tl, .inl (cI, 48, .inl (tcL (i2) ((al (i2 - 1)) - dd) al))), (th, .inl (cI, 48, .inl (tcH (i2) ((ah (i2 - 1)) + dd) ah)))]) hD hS hA [0, 1, 2] rfl
            refine va_callv (va_runV (As := [.int (nI i2), .int (nI (i2 - 8)), .int dd]) (rest := []) ⟨hx, hb, hml, hown, hts⟩ (s_tryNeighbour l dC dI cI _ ql tl th (i2) (i2 - 8) u0 u1 u4 dd (tcL (i2) ((al (i2 - 1)) - dd) al) (tcH (i2) ((ah (i2 - 1)) + dd) ah) (by omega) (by omega)) (cwV 3 hts gX3_narrowTrial_X3_tryNeighbour rfl rfl rfl (by decide +kernel) ⟨Nat.le_of_ble_eq_true rfl, Nat.le_of_ble_eq_true rfl⟩) (pw_preV (va_recv hKc hPc (ci := 3) (q0 := 0) rfl rfl) hPc hKc hDc hN) rfl rfl hl.1 rfl (lv_room (Nat.le_of_ble_eq_true rfl)) dX3_narrowTrial_37 ⟨Nat.le_of_ble_eq_true rfl, Nat.le_of_ble_eq_true rfl⟩) hS (fun q _ h => hFc q h) hFc (fun u t H1 locs ht hvm hw hB hz1 hk1 hS => ?_)
            obtain ⟨hP1, hK1, hD1⟩ := hB
            rw [ht] at hP1
            obtain ⟨hP, hD⟩ := va_join (wr := []) (w1 := [(ql, .inr (3, [u0, u1, .ref tl, .ref th, u4])), (tl, .inl (cI, 48, .inl (tcL (i2) (((tcL (i2) ((al (i2 - 1)) - dd) al) (i2 - 8)) - dd) (tcL (i2) ((al (i2 - 1)) - dd) al)))), (th, .inl (cI, 48, .inl (tcH (i2) (((tcH (i2) ((ah (i2 - 1)) + dd) ah) (i2 - 8)) + dd) (tcH (i2) ((ah (i2 - 1)) + dd) ah))))]) hP hD [0, 1, 2] [] rfl rfl (by decide) (by decide) hk1 hFc hP1 hD1
            generalize H1 = H at hP hS ⊢
            have hP : va_P (dC, dI) vwCl [(ql, .inr (3, [u0, u1, .ref tl, .ref th, u4])), (tl, .inl (cI, 48, .inl (tcL (i2) (((tcL (i2) ((al (i2 - 1)) - dd) al) (i2 - 8)) - dd) (tcL (i2) ((al (i2 - 1)) - dd) al)))), (th, .inl (cI, 48, .inl (tcH (i2) (((tcH (i2) ((ah (i2 - 1)) + dd) ah) (i2 - 8)) + dd) (tcH (i2) ((ah (i2 - 1)) + dd) ah))))] H := hP
            have hD : va_D _ [(ql, .inr (3, [u0, u1, .ref tl, .ref th, u4])), (tl, .inl (cI, 48, .inl (tcL (i2) (((tcL (i2) ((al (i2 - 1)) - dd) al) (i2 - 8)) - dd) (tcL (i2) ((al (i2 - 1)) - dd) al)))), (th, .inl (cI, 48, .inl (tcH (i2) (((tcH (i2) ((ah (i2 - 1)) + dd) ah) (i2 - 8)) + dd) (tcH (i2) ((ah (i2 - 1)) + dd) ah))))] := hD
            refine lv_iinc (v := nI (i2 + 1)) (lv' := [(2, .int (nI (i2 + 1))), (0, .ref ql), (1, .int dd)]) hx hb dX3_narrowTrial_40 hl (k := 0) rfl (nI_1 i2) (by decide) rfl (fun ls hl => ?_)
            refine lv_goto (tgt := 2) hx hb dX3_narrowTrial_43 (by decide) ?_
            exact ihi2 (i2 + 1) (tcL (i2) (((tcL (i2) ((al (i2 - 1)) - dd) al) (i2 - 8)) - dd) (tcL (i2) ((al (i2 - 1)) - dd) al)) (tcH (i2) (((tcH (i2) ((ah (i2 - 1)) + dd) ah) (i2 - 8)) + dd) (tcH (i2) ((ah (i2 - 1)) + dd) ah)) _ _ ls (by omega) (by omega) (by rw [hal, swL]; simp [sw1L, hq1, hq2]) (by rw [hah, swH]; simp [sw1H, hq1, hq2]) (hP.sub [0, 1, 2] rfl) (hD.sub [0, 1, 2] (by decide) rfl) hS (lv_sub hl [0, 1, 2] rfl)
  exact loop2 (48 + 1 - 0) 0 gl gh _ _ ls (by omega) (by omega) rfl rfl hP hD hS (lv_sub hl [0, 1, 2] rfl)
set_option maxHeartbeats 4000000 in
set_option maxRecDepth 100000 in
theorem s_endTrial (l : Launch) (dC : Nat → ClassId) (dI : Nat → Nat → Nat) (cI : ClassId) (sz : Nat) (ql : Nat) (lw : Nat) (hg : Nat) (tl : Nat) (th : Nat) (law : Int32) (dd : Int32) (fl : Nat → Int32) (fh : Nat → Int32) (gl : Nat → Int32) (gh : Nat → Int32)  : Met l yX3_endTrial wsX3_endTrial ({ frames := 4, cells := 0, slots := 0, locals := 120 }) (pw (dC, dI) [(cI, .int)] [(ql, .inr (3, [.ref lw, .ref hg, .ref tl, .ref th, .int law])), (lw, .inl (cI, 48, .inl fl)), (hg, .inl (cI, 48, .inl fh)), (tl, .inl (cI, 48, .inl gl)), (th, .inl (cI, 48, .inl gh))] sz [.ref ql, .int dd]) (va_Qi (fun r (u : (Nat → Int32) × (Nat → Int32) × (Int32) × (Nat → Int32) × (Nat → Int32)) => ((u.2.2.2.1) = dnL dd (swL dd gl 48) 48 ∧ (u.2.2.2.2) = dnH dd (swH dd gh 48) 48) ∧ ((r = -3 ∧ (∃ j, j < 48 ∧ (u.2.2.2.2) j < (u.2.2.2.1) j) ∧ (u.1) = fl ∧ (u.2.1) = fh ∧ (u.2.2.1) = law) ∨ (r = nI (fa_cnt (chg fl fh (u.2.2.2.1) (u.2.2.2.2)) 48) ∧ (∀ j, j < 48 → ¬ (u.2.2.2.2) j < (u.2.2.2.1) j) ∧ (u.1) = (u.2.2.2.1) ∧ (u.2.1) = (u.2.2.2.2) ∧ (u.2.2.1) = dd))) (fun u t => bw (dC, dI) [(cI, .int)] (va_A [(ql, .inr (3, [.ref lw, .ref hg, .ref tl, .ref th, .int law])), (lw, .inl (cI, 48, .inl fl)), (hg, .inl (cI, 48, .inl fh)), (tl, .inl (cI, 48, .inl gl)), (th, .inl (cI, 48, .inl gh))] sz) [(ql, .inr (3, [.ref lw, .ref hg, .ref tl, .ref th, .int (u.2.2.1)])), (lw, .inl (cI, 48, .inl (u.1))), (hg, .inl (cI, 48, .inl (u.2.1))), (tl, .inl (cI, 48, .inl (u.2.2.2.1))), (th, .inl (cI, 48, .inl (u.2.2.2.2)))] t) (va_A [(ql, .inr (3, [.ref lw, .ref hg, .ref tl, .ref th, .int law])), (lw, .inl (cI, 48, .inl fl)), (hg, .inl (cI, 48, .inl fh)), (tl, .inl (cI, 48, .inl gl)), (th, .inl (cI, 48, .inl gh))] sz)) 0 0 (va_A [(ql, .inr (3, [.ref lw, .ref hg, .ref tl, .ref th, .int law])), (lw, .inl (cI, 48, .inl fl)), (hg, .inl (cI, 48, .inl fh)), (tl, .inl (cI, 48, .inl gl)), (th, .inl (cI, 48, .inl gh))] sz) := by
  refine pw_met (cc := cX3_endTrial) (maxL := 4) (ret := (some .int)) (by decide) rfl (Nat.le_of_ble_eq_true rfl) ?_
  intro p e s m below meth c0 hx hb hr hml hown hlocks hnm hts hP hK hD hN hsz hA hS ls hl
  subst hsz
  have hl : lv_has ls 4 [(0, .ref ql), (1, .int dd)] := hl
  have hiX3 : ∀ w ∈ wsX30, w ∈ wsX3_endTrial := by decide +kernel
  generalize hQ : MQ _ _ _ _ _ _ _ = Q
  refine lv_aload_n hx hb dX3_endTrial_0 rfl (lv_at hl 0 rfl) ?_
  refine lv_iload_n hx hb dX3_endTrial_1 rfl (lv_at hl 1 rfl) ?_
  have hPc := hP.sub (ws' := [(ql, .inr (3, [.ref lw, .ref hg, .ref tl, .ref th, .int law])), (tl, .inl (cI, 48, .inl gl)), (th, .inl (cI, 48, .inl gh))]) [0, 3, 4] rfl
  have hDc := hD.sub (ws' := [(ql, .inr (3, [.ref lw, .ref hg, .ref tl, .ref th, .int law])), (tl, .inl (cI, 48, .inl gl)), (th, .inl (cI, 48, .inl gh))]) [0, 3, 4] (by decide) rfl
  have hKc := hK.sub (tys' := [(cI, .int)]) [0] rfl
  have hFc := va_free (wc := [(ql, .inr (3, [.ref lw, .ref hg, .ref tl, .ref th, .int law])), (tl, .inl (cI, 48, .inl gl)), (th, .inl (cI, 48, .inl gh))]) hD hS hA [0, 3, 4] rfl
  refine va_callv (va_runV (As := [.int dd]) (rest := []) ⟨hx, hb, hml, hown, hts⟩ (s_narrowTrial l dC dI cI _ ql tl th (.ref lw) (.ref hg) (.int law) dd gl gh ) (cwV 1 hts gX3_endTrial_X3_narrowTrial rfl rfl rfl (by decide +kernel) ⟨Nat.le_of_ble_eq_true rfl, Nat.le_of_ble_eq_true rfl⟩) (pw_preV (va_recv hKc hPc (ci := 3) (q0 := 0) rfl rfl) hPc hKc hDc hN) rfl rfl hl.1 rfl (lv_room (Nat.le_of_ble_eq_true rfl)) dX3_endTrial_2 ⟨Nat.le_of_ble_eq_true rfl, Nat.le_of_ble_eq_true rfl⟩) hS (fun q _ h => hFc q h) hFc (fun u t H1 locs ht hvm hw hB hz1 hk1 hS => ?_)
  obtain ⟨hP1, hK1, hD1⟩ := hB
  rw [ht] at hP1
  obtain ⟨hP, hD⟩ := va_join (wr := [(lw, .inl (cI, 48, .inl fl)), (hg, .inl (cI, 48, .inl fh))]) (w1 := [(ql, .inr (3, [.ref lw, .ref hg, .ref tl, .ref th, .int law])), (tl, .inl (cI, 48, .inl (dnL dd (swL dd gl 48) 48))), (th, .inl (cI, 48, .inl (dnH dd (swH dd gh 48) 48)))]) hP hD [0, 3, 4] [1, 2] rfl rfl (by decide) (by decide) hk1 hFc hP1 hD1
  generalize H1 = H at hP hS ⊢
  have hP : va_P (dC, dI) vwCl [(lw, .inl (cI, 48, .inl fl)), (hg, .inl (cI, 48, .inl fh)), (ql, .inr (3, [.ref lw, .ref hg, .ref tl, .ref th, .int law])), (tl, .inl (cI, 48, .inl (dnL dd (swL dd gl 48) 48))), (th, .inl (cI, 48, .inl (dnH dd (swH dd gh 48) 48)))] H := hP
  have hD : va_D _ [(lw, .inl (cI, 48, .inl fl)), (hg, .inl (cI, 48, .inl fh)), (ql, .inr (3, [.ref lw, .ref hg, .ref tl, .ref th, .int law])), (tl, .inl (cI, 48, .inl (dnL dd (swL dd gl 48) 48))), (th, .inl (cI, 48, .inl (dnH dd (swH dd gh 48) 48)))] := hD
  obtain ⟨ta, eta⟩ : ∃ ta, ta = dnL dd (swL dd gl 48) 48 := ⟨_, rfl⟩
  obtain ⟨tb, etb⟩ : ∃ tb, tb = dnH dd (swH dd gh 48) 48 := ⟨_, rfl⟩
  rw [← eta, ← etb] at hP hD
  have hP : va_P (dC, dI) vwCl [(lw, .inl (cI, 48, .inl fl)), (hg, .inl (cI, 48, .inl fh)), (ql, .inr (3, [.ref lw, .ref hg, .ref tl, .ref th, .int law])), (tl, .inl (cI, 48, .inl ta)), (th, .inl (cI, 48, .inl tb))] H := hP
  have hD : va_D _ [(lw, .inl (cI, 48, .inl fl)), (hg, .inl (cI, 48, .inl fh)), (ql, .inr (3, [.ref lw, .ref hg, .ref tl, .ref th, .int law])), (tl, .inl (cI, 48, .inl ta)), (th, .inl (cI, 48, .inl tb))] := hD
  refine lv_iconst (v := 0) hx hb dX3_endTrial_5 (by decide) ?_
  refine lv_istore_n (lv' := [(2, .int 0), (0, .ref ql), (1, .int dd)]) hx hb dX3_endTrial_6 rfl hl (by decide) rfl (fun ls hl => ?_)
  refine lv_iconst (v := 0) hx hb dX3_endTrial_7 (by decide) ?_
  refine lv_istore_n (lv' := [(3, .int 0), (2, .int 0), (0, .ref ql), (1, .int dd)]) hx hb dX3_endTrial_8 rfl hl (by decide) rfl (fun ls hl => ?_)
  have loop9 : ∀ (ni9 i9 : Nat) (H : Heap) (locs : List Loc) (ls : Array Slot), i9 ≤ 48 → 48 + 1 ≤ i9 + ni9 → (∀ j, j < i9 → ¬ tb j < ta j) → va_P (dC, dI) vwCl [(lw, .inl (cI, 48, .inl fl)), (hg, .inl (cI, 48, .inl fh)), (ql, .inr (3, [.ref lw, .ref hg, .ref tl, .ref th, .int law])), (tl, .inl (cI, 48, .inl ta)), (th, .inl (cI, 48, .inl tb))] H → va_D (va_A [(ql, .inr (3, [.ref lw, .ref hg, .ref tl, .ref th, .int law])), (lw, .inl (cI, 48, .inl fl)), (hg, .inl (cI, 48, .inl fh)), (tl, .inl (cI, 48, .inl gl)), (th, .inl (cI, 48, .inl gh))] s.heap.size) [(lw, .inl (cI, 48, .inl fl)), (hg, .inl (cI, 48, .inl fh)), (ql, .inr (3, [.ref lw, .ref hg, .ref tl, .ref th, .int law])), (tl, .inl (cI, 48, .inl ta)), (th, .inl (cI, 48, .inl tb))] → va_S (va_A [(ql, .inr (3, [.ref lw, .ref hg, .ref tl, .ref th, .int law])), (lw, .inl (cI, 48, .inl fl)), (hg, .inl (cI, 48, .inl fh)), (tl, .inl (cI, 48, .inl gl)), (th, .inl (cI, 48, .inl gh))] s.heap.size) s.heap H locs → lv_has ls 4 [(3, .int (nI i9)), (2, .int (nI (fa_cnt (chg fl fh ta tb) i9))), (0, .ref ql), (1, .int dd)] → W p l e ({ frames := 4, cells := 0, slots := 0, locals := 120 } : Room) s m ([.ref ql, .int dd] : List Value).toArray below meth c0 H locs 0 0 Q (F0 m 9 ls []) := by
    intro ni9
    induction ni9 with
    | zero =>
      intro i9  H locs ls h1 h2
      exact absurd h2 (by omega)
    | succ ni9 ihi9 =>
      intro i9  H locs ls hlei9 hni9 hall hP hD hS hl
      refine lv_iload_n hx hb dX3_endTrial_9 rfl (lv_at hl 0 rfl) ?_
      refine lv_bipush (v := 48) hx hb dX3_endTrial_10 (by decide) ?_
      refine lv_icmp_ge (tgt := 72) hx hb dX3_endTrial_12 (by decide) (fun c2 => ?_) (fun c2 => ?_)
      · skip
        have hei9 : i9 = 48 := (Nat.lt_or_ge i9 48).elim (fun q => absurd c2 (show ¬ nI 48 ≤ nI i9 from nI_ge q (by omega))) (fun q => by omega)
        refine lv_aload_n hx hb dX3_endTrial_72 rfl (lv_at hl 2 rfl) ?_
        refine va_get (D := (dC, dI)) (ci := 3) (v := .ref tl) (C := RX3) (T := TX3) (N := 5) hx hb hts hiX3 hown hK hP 2 rfl rfl 2 (by decide) (hts (.fieldLink RX3 18 "TributePitches$Lode" "triedLows" "[I") (by decide +kernel)) (fun _ h9 => h9) rfl dX3_endTrial_73 ?_
        refine lv_iconst (v := 0) hx hb dX3_endTrial_76 (by decide) ?_
        refine lv_aload_n hx hb dX3_endTrial_77 rfl (lv_at hl 2 rfl) ?_
        refine va_get (D := (dC, dI)) (ci := 3) (v := .ref lw) (C := RX3) (T := TX3) (N := 5) hx hb hts hiX3 hown hK hP 2 rfl rfl 0 (by decide) (hts (.fieldLink RX3 11 "TributePitches$Lode" "lows" "[I") (by decide +kernel)) (fun _ h9 => h9) rfl dX3_endTrial_78 ?_
        refine lv_iconst (v := 0) hx hb dX3_endTrial_81 (by decide) ?_
        refine lv_bipush (v := 48) hx hb dX3_endTrial_82 (by decide) ?_
        refine va_copyi hx hb (hml.trans hl.1.symm) hown (hts (.methodLink RX3 38 arraycopyName) (by decide +kernel)) (hts (.native arraycopyName) (by decide +kernel)) (hts (.static arraycopyName) (by decide +kernel)) (hts (.initialized "java/lang/System") (by decide +kernel)) hK hP hD hS 3 0 0 0 rfl rfl rfl rfl rfl (by decide) (by decide) (by decide) (by decide) (by decide) (fun _ _ => rfl) (Nat.le_of_ble_eq_true rfl) (Nat.le_of_ble_eq_true rfl) dX3_endTrial_84 (fun H locs hP hD hS => ?_)
        have hP : va_P (dC, dI) vwCl [(lw, .inl (cI, 48, .inl (va_cpy ta fl 0 0 48))), (hg, .inl (cI, 48, .inl fh)), (ql, .inr (3, [.ref lw, .ref hg, .ref tl, .ref th, .int law])), (tl, .inl (cI, 48, .inl ta)), (th, .inl (cI, 48, .inl tb))] H := hP
        have hD : va_D _ [(lw, .inl (cI, 48, .inl (va_cpy ta fl 0 0 48))), (hg, .inl (cI, 48, .inl fh)), (ql, .inr (3, [.ref lw, .ref hg, .ref tl, .ref th, .int law])), (tl, .inl (cI, 48, .inl ta)), (th, .inl (cI, 48, .inl tb))] := hD
        have hP := va_P_cg hP 0 ta rfl (cpy_all _ _)
        have hD := va_D_cg hD 0 ta rfl
        have hP : va_P (dC, dI) vwCl [(lw, .inl (cI, 48, .inl ta)), (hg, .inl (cI, 48, .inl fh)), (ql, .inr (3, [.ref lw, .ref hg, .ref tl, .ref th, .int law])), (tl, .inl (cI, 48, .inl ta)), (th, .inl (cI, 48, .inl tb))] H := hP
        have hD : va_D _ [(lw, .inl (cI, 48, .inl ta)), (hg, .inl (cI, 48, .inl fh)), (ql, .inr (3, [.ref lw, .ref hg, .ref tl, .ref th, .int law])), (tl, .inl (cI, 48, .inl ta)), (th, .inl (cI, 48, .inl tb))] := hD
        refine lv_aload_n hx hb dX3_endTrial_87 rfl (lv_at hl 2 rfl) ?_
        refine va_get (D := (dC, dI)) (ci := 3) (v := .ref th) (C := RX3) (T := TX3) (N := 5) hx hb hts hiX3 hown hK hP 2 rfl rfl 3 (by decide) (hts (.fieldLink RX3 21 "TributePitches$Lode" "triedHighs" "[I") (by decide +kernel)) (fun _ h9 => h9) rfl dX3_endTrial_88 ?_
        refine lv_iconst (v := 0) hx hb dX3_endTrial_91 (by decide) ?_
        refine lv_aload_n hx hb dX3_endTrial_92 rfl (lv_at hl 2 rfl) ?_
        refine va_get (D := (dC, dI)) (ci := 3) (v := .ref hg) (C := RX3) (T := TX3) (N := 5) hx hb hts hiX3 hown hK hP 2 rfl rfl 1 (by decide) (hts (.fieldLink RX3 15 "TributePitches$Lode" "highs" "[I") (by decide +kernel)) (fun _ h9 => h9) rfl dX3_endTrial_93 ?_
        refine lv_iconst (v := 0) hx hb dX3_endTrial_96 (by decide) ?_
        refine lv_bipush (v := 48) hx hb dX3_endTrial_97 (by decide) ?_
        refine va_copyi hx hb (hml.trans hl.1.symm) hown (hts (.methodLink RX3 38 arraycopyName) (by decide +kernel)) (hts (.native arraycopyName) (by decide +kernel)) (hts (.static arraycopyName) (by decide +kernel)) (hts (.initialized "java/lang/System") (by decide +kernel)) hK hP hD hS 4 1 0 0 rfl rfl rfl rfl rfl (by decide) (by decide) (by decide) (by decide) (by decide) (fun _ _ => rfl) (Nat.le_of_ble_eq_true rfl) (Nat.le_of_ble_eq_true rfl) dX3_endTrial_99 (fun H locs hP hD hS => ?_)
        have hP : va_P (dC, dI) vwCl [(lw, .inl (cI, 48, .inl ta)), (hg, .inl (cI, 48, .inl (va_cpy tb fh 0 0 48))), (ql, .inr (3, [.ref lw, .ref hg, .ref tl, .ref th, .int law])), (tl, .inl (cI, 48, .inl ta)), (th, .inl (cI, 48, .inl tb))] H := hP
        have hD : va_D _ [(lw, .inl (cI, 48, .inl ta)), (hg, .inl (cI, 48, .inl (va_cpy tb fh 0 0 48))), (ql, .inr (3, [.ref lw, .ref hg, .ref tl, .ref th, .int law])), (tl, .inl (cI, 48, .inl ta)), (th, .inl (cI, 48, .inl tb))] := hD
        have hP := va_P_cg hP 1 tb rfl (cpy_all _ _)
        have hD := va_D_cg hD 1 tb rfl
        have hP : va_P (dC, dI) vwCl [(lw, .inl (cI, 48, .inl ta)), (hg, .inl (cI, 48, .inl tb)), (ql, .inr (3, [.ref lw, .ref hg, .ref tl, .ref th, .int law])), (tl, .inl (cI, 48, .inl ta)), (th, .inl (cI, 48, .inl tb))] H := hP
        have hD : va_D _ [(lw, .inl (cI, 48, .inl ta)), (hg, .inl (cI, 48, .inl tb)), (ql, .inr (3, [.ref lw, .ref hg, .ref tl, .ref th, .int law])), (tl, .inl (cI, 48, .inl ta)), (th, .inl (cI, 48, .inl tb))] := hD
        refine lv_aload_n hx hb dX3_endTrial_102 rfl (lv_at hl 2 rfl) ?_
        refine lv_iload_n hx hb dX3_endTrial_103 rfl (lv_at hl 3 rfl) ?_
        refine va_put (D := (dC, dI)) (ci := 3) (v := .int dd) (ty := .int) (C := RX3) (T := TX3) (N := 5) hx hb hts hiX3 tyX3 tyX3_ok nmX3 hown hK hP hD hS 2 rfl rfl 4 (by decide) (hts (.fieldLink RX3 24 "TributePitches$Lode" "law" "I") (by decide +kernel)) (fun _ h9 => h9) rfl (by decide +kernel) rfl rfl (Nat.le_of_ble_eq_true rfl) dX3_endTrial_104 (fun H locs hP hD hS => ?_)
        have hP : va_P (dC, dI) vwCl [(lw, .inl (cI, 48, .inl ta)), (hg, .inl (cI, 48, .inl tb)), (ql, .inr (3, [.ref lw, .ref hg, .ref tl, .ref th, .int dd])), (tl, .inl (cI, 48, .inl ta)), (th, .inl (cI, 48, .inl tb))] H := hP
        have hD : va_D _ [(lw, .inl (cI, 48, .inl ta)), (hg, .inl (cI, 48, .inl tb)), (ql, .inr (3, [.ref lw, .ref hg, .ref tl, .ref th, .int dd])), (tl, .inl (cI, 48, .inl ta)), (th, .inl (cI, 48, .inl tb))] := hD
        refine lv_iload_n hx hb dX3_endTrial_107 rfl (lv_at hl 1 rfl) ?_
        subst hQ
        have hP9 := hP.sub (ws' := [(ql, .inr (3, [.ref lw, .ref hg, .ref tl, .ref th, .int dd])), (lw, .inl (cI, 48, .inl ta)), (hg, .inl (cI, 48, .inl tb)), (tl, .inl (cI, 48, .inl ta)), (th, .inl (cI, 48, .inl tb))]) [2, 0, 1, 3, 4] rfl
        have hD9 := hD.sub (ws' := [(ql, .inr (3, [.ref lw, .ref hg, .ref tl, .ref th, .int dd])), (lw, .inl (cI, 48, .inl ta)), (hg, .inl (cI, 48, .inl tb)), (tl, .inl (cI, 48, .inl ta)), (th, .inl (cI, 48, .inl tb))]) [2, 0, 1, 3, 4] (by decide) rfl
        have hK9 := hK
        exact W.iret (v := nI (fa_cnt (chg fl fh ta tb) i9)) hx hb hr (fun t ht hW => ⟨⟨nI (fa_cnt (chg fl fh ta tb) i9), (ta, tb, dd, ta, tb), rfl, ⟨⟨eta, etb⟩, Or.inr ⟨by rw [hei9], (by rw [← hei9]; exact hall), rfl, rfl, rfl⟩⟩, by rw [ht]; exact hP9, va_K.moved hW.alike hK9, hD9⟩, hS.F ht⟩) hS.2.2 dX3_endTrial_108
      · skip
        have hlti9 : i9 < 48 := (Nat.lt_or_ge i9 48).elim id (fun q => absurd (show nI 48 ≤ nI i9 from nI_le q (by omega)) c2)
        refine lv_aload_n hx hb dX3_endTrial_15 rfl (lv_at hl 2 rfl) ?_
        refine va_get (D := (dC, dI)) (ci := 3) (v := .ref tl) (C := RX3) (T := TX3) (N := 5) hx hb hts hiX3 hown hK hP 2 rfl rfl 2 (by decide) (hts (.fieldLink RX3 18 "TributePitches$Lode" "triedLows" "[I") (by decide +kernel)) (fun _ h9 => h9) rfl dX3_endTrial_16 ?_
        refine lv_iload_n hx hb dX3_endTrial_19 rfl (lv_at hl 0 rfl) ?_
        refine va_iald hx hb hK hP 3 0 rfl rfl (vp_in_nI (by omega) (by omega)) dX3_endTrial_20 ?_
        refine lv_topi (fun v3 ev3 => ?_)
        have ev3 : v3 = ta i9 := by rw [ev3]; rw [nI_clamp (by omega)]
        subst ev3
        refine lv_aload_n hx hb dX3_endTrial_21 rfl (lv_at hl 2 rfl) ?_
        refine va_get (D := (dC, dI)) (ci := 3) (v := .ref th) (C := RX3) (T := TX3) (N := 5) hx hb hts hiX3 hown hK hP 2 rfl rfl 3 (by decide) (hts (.fieldLink RX3 21 "TributePitches$Lode" "triedHighs" "[I") (by decide +kernel)) (fun _ h9 => h9) rfl dX3_endTrial_22 ?_
        refine lv_iload_n hx hb dX3_endTrial_25 rfl (lv_at hl 0 rfl) ?_
        refine va_iald hx hb hK hP 4 0 rfl rfl (vp_in_nI (by omega) (by omega)) dX3_endTrial_26 ?_
        refine lv_topi (fun v4 ev4 => ?_)
        have ev4 : v4 = tb i9 := by rw [ev4]; rw [nI_clamp (by omega)]
        subst ev4
        refine lv_icmp_le (tgt := 33) hx hb dX3_endTrial_27 (by decide) (fun c5 => ?_) (fun c5 => ?_)
        · skip
          have hle9 := c5
          refine lv_aload_n hx hb dX3_endTrial_33 rfl (lv_at hl 2 rfl) ?_
          refine va_get (D := (dC, dI)) (ci := 3) (v := .ref tl) (C := RX3) (T := TX3) (N := 5) hx hb hts hiX3 hown hK hP 2 rfl rfl 2 (by decide) (hts (.fieldLink RX3 18 "TributePitches$Lode" "triedLows" "[I") (by decide +kernel)) (fun _ h9 => h9) rfl dX3_endTrial_34 ?_
          refine lv_iload_n hx hb dX3_endTrial_37 rfl (lv_at hl 0 rfl) ?_
          refine va_iald hx hb hK hP 3 0 rfl rfl (vp_in_nI (by omega) (by omega)) dX3_endTrial_38 ?_
          refine lv_topi (fun v6 ev6 => ?_)
          have ev6 : v6 = ta i9 := by rw [ev6]; rw [nI_clamp (by omega)]
          subst ev6
          refine lv_aload_n hx hb dX3_endTrial_39 rfl (lv_at hl 2 rfl) ?_
          refine va_get (D := (dC, dI)) (ci := 3) (v := .ref lw) (C := RX3) (T := TX3) (N := 5) hx hb hts hiX3 hown hK hP 2 rfl rfl 0 (by decide) (hts (.fieldLink RX3 11 "TributePitches$Lode" "lows" "[I") (by decide +kernel)) (fun _ h9 => h9) rfl dX3_endTrial_40 ?_
          refine lv_iload_n hx hb dX3_endTrial_43 rfl (lv_at hl 0 rfl) ?_
          refine va_iald hx hb hK hP 0 0 rfl rfl (vp_in_nI (by omega) (by omega)) dX3_endTrial_44 ?_
          refine lv_topi (fun v7 ev7 => ?_)
          have ev7 : v7 = fl i9 := by rw [ev7]; rw [nI_clamp (by omega)]
          subst ev7
          refine lv_icmp_ne (tgt := 63) hx hb dX3_endTrial_45 (by decide) (fun c8 => ?_) (fun c8 => ?_)
          · skip
            refine lv_iinc (v := nI (fa_cnt (chg fl fh ta tb) i9 + 1)) (lv' := [(2, .int (nI (fa_cnt (chg fl fh ta tb) i9 + 1))), (3, .int (nI i9)), (0, .ref ql), (1, .int dd)]) hx hb dX3_endTrial_63 hl (k := 1) rfl (nI_1 _) (by decide) rfl (fun ls hl => ?_)
            refine lv_iinc (v := nI (i9 + 1)) (lv' := [(3, .int (nI (i9 + 1))), (2, .int (nI (fa_cnt (chg fl fh ta tb) i9 + 1))), (0, .ref ql), (1, .int dd)]) hx hb dX3_endTrial_66 hl (k := 1) rfl (nI_1 i9) (by decide) rfl (fun ls hl => ?_)
            refine lv_goto (tgt := 9) hx hb dX3_endTrial_69 (by decide) ?_
            have e9 : fa_cnt (chg fl fh ta tb) (i9 + 1) = fa_cnt (chg fl fh ta tb) i9 + 1 := fa_cnt_yes (by simp [chg, c5, c8])
            rw [← e9] at hl
            have hl : lv_has ls 4 [(3, .int (nI (i9 + 1))), (2, .int (nI (fa_cnt (chg fl fh ta tb) (i9 + 1)))), (0, .ref ql), (1, .int dd)] := hl
            exact ihi9 (i9 + 1)  _ _ ls (by omega) (by omega) (fun j hj => (Nat.lt_or_ge j i9).elim (fun q => hall j q) (fun q => by have e8 : j = i9 := (by omega); rw [e8]; exact Int32.not_lt.mpr hle9)) (hP.sub [0, 1, 2, 3, 4] rfl) (hD.sub [0, 1, 2, 3, 4] (by decide) rfl) hS (lv_sub hl [0, 1, 2, 3] rfl)
          · skip
            refine lv_aload_n hx hb dX3_endTrial_48 rfl (lv_at hl 2 rfl) ?_
            refine va_get (D := (dC, dI)) (ci := 3) (v := .ref th) (C := RX3) (T := TX3) (N := 5) hx hb hts hiX3 hown hK hP 2 rfl rfl 3 (by decide) (hts (.fieldLink RX3 21 "TributePitches$Lode" "triedHighs" "[I") (by decide +kernel)) (fun _ h9 => h9) rfl dX3_endTrial_49 ?_
            refine lv_iload_n hx hb dX3_endTrial_52 rfl (lv_at hl 0 rfl) ?_
            refine va_iald hx hb hK hP 4 0 rfl rfl (vp_in_nI (by omega) (by omega)) dX3_endTrial_53 ?_
            refine lv_topi (fun v9 ev9 => ?_)
            have ev9 : v9 = tb i9 := by rw [ev9]; rw [nI_clamp (by omega)]
            subst ev9
            refine lv_aload_n hx hb dX3_endTrial_54 rfl (lv_at hl 2 rfl) ?_
            refine va_get (D := (dC, dI)) (ci := 3) (v := .ref hg) (C := RX3) (T := TX3) (N := 5) hx hb hts hiX3 hown hK hP 2 rfl rfl 1 (by decide) (hts (.fieldLink RX3 15 "TributePitches$Lode" "highs" "[I") (by decide +kernel)) (fun _ h9 => h9) rfl dX3_endTrial_55 ?_
            refine lv_iload_n hx hb dX3_endTrial_58 rfl (lv_at hl 0 rfl) ?_
            refine va_iald hx hb hK hP 1 0 rfl rfl (vp_in_nI (by omega) (by omega)) dX3_endTrial_59 ?_
            refine lv_topi (fun v10 ev10 => ?_)
            have ev10 : v10 = fh i9 := by rw [ev10]; rw [nI_clamp (by omega)]
            subst ev10
            refine lv_icmp_eq (tgt := 66) hx hb dX3_endTrial_60 (by decide) (fun c11 => ?_) (fun c11 => ?_)
            · skip
              refine lv_iinc (v := nI (i9 + 1)) (lv' := [(3, .int (nI (i9 + 1))), (2, .int (nI (fa_cnt (chg fl fh ta tb) i9))), (0, .ref ql), (1, .int dd)]) hx hb dX3_endTrial_66 hl (k := 0) rfl (nI_1 i9) (by decide) rfl (fun ls hl => ?_)
              refine lv_goto (tgt := 9) hx hb dX3_endTrial_69 (by decide) ?_
              have e9 : fa_cnt (chg fl fh ta tb) (i9 + 1) = fa_cnt (chg fl fh ta tb) i9 := fa_cnt_no (by simp [chg, c8, c11])
              rw [← e9] at hl
              have hl : lv_has ls 4 [(3, .int (nI (i9 + 1))), (2, .int (nI (fa_cnt (chg fl fh ta tb) (i9 + 1)))), (0, .ref ql), (1, .int dd)] := hl
              exact ihi9 (i9 + 1)  _ _ ls (by omega) (by omega) (fun j hj => (Nat.lt_or_ge j i9).elim (fun q => hall j q) (fun q => by have e8 : j = i9 := (by omega); rw [e8]; exact Int32.not_lt.mpr hle9)) (hP.sub [0, 1, 2, 3, 4] rfl) (hD.sub [0, 1, 2, 3, 4] (by decide) rfl) hS (lv_sub hl [0, 1, 2, 3] rfl)
            · skip
              refine lv_iinc (v := nI (fa_cnt (chg fl fh ta tb) i9 + 1)) (lv' := [(2, .int (nI (fa_cnt (chg fl fh ta tb) i9 + 1))), (3, .int (nI i9)), (0, .ref ql), (1, .int dd)]) hx hb dX3_endTrial_63 hl (k := 1) rfl (nI_1 _) (by decide) rfl (fun ls hl => ?_)
              refine lv_iinc (v := nI (i9 + 1)) (lv' := [(3, .int (nI (i9 + 1))), (2, .int (nI (fa_cnt (chg fl fh ta tb) i9 + 1))), (0, .ref ql), (1, .int dd)]) hx hb dX3_endTrial_66 hl (k := 1) rfl (nI_1 i9) (by decide) rfl (fun ls hl => ?_)
              refine lv_goto (tgt := 9) hx hb dX3_endTrial_69 (by decide) ?_
              have e9 : fa_cnt (chg fl fh ta tb) (i9 + 1) = fa_cnt (chg fl fh ta tb) i9 + 1 := fa_cnt_yes (by simp [chg, c8, c11])
              rw [← e9] at hl
              have hl : lv_has ls 4 [(3, .int (nI (i9 + 1))), (2, .int (nI (fa_cnt (chg fl fh ta tb) (i9 + 1)))), (0, .ref ql), (1, .int dd)] := hl
              exact ihi9 (i9 + 1)  _ _ ls (by omega) (by omega) (fun j hj => (Nat.lt_or_ge j i9).elim (fun q => hall j q) (fun q => by have e8 : j = i9 := (by omega); rw [e8]; exact Int32.not_lt.mpr hle9)) (hP.sub [0, 1, 2, 3, 4] rfl) (hD.sub [0, 1, 2, 3, 4] (by decide) rfl) hS (lv_sub hl [0, 1, 2, 3] rfl)
        · skip
          refine lv_bipush (v := (-3)) hx hb dX3_endTrial_30 (by decide) ?_
          subst hQ
          have hP9 := hP.sub (ws' := [(ql, .inr (3, [.ref lw, .ref hg, .ref tl, .ref th, .int law])), (lw, .inl (cI, 48, .inl fl)), (hg, .inl (cI, 48, .inl fh)), (tl, .inl (cI, 48, .inl ta)), (th, .inl (cI, 48, .inl tb))]) [2, 0, 1, 3, 4] rfl
          have hD9 := hD.sub (ws' := [(ql, .inr (3, [.ref lw, .ref hg, .ref tl, .ref th, .int law])), (lw, .inl (cI, 48, .inl fl)), (hg, .inl (cI, 48, .inl fh)), (tl, .inl (cI, 48, .inl ta)), (th, .inl (cI, 48, .inl tb))]) [2, 0, 1, 3, 4] (by decide) rfl
          have hK9 := hK
          exact W.iret (v := (-3)) hx hb hr (fun t ht hW => ⟨⟨(-3), (fl, fh, law, ta, tb), rfl, ⟨⟨eta, etb⟩, Or.inl ⟨rfl, ⟨i9, hlti9, Int32.not_le.mp c5⟩, rfl, rfl, rfl⟩⟩, by rw [ht]; exact hP9, va_K.moved hW.alike hK9, hD9⟩, hS.F ht⟩) hS.2.2 dX3_endTrial_32
  exact loop9 (48 + 1 - 0) 0  _ _ ls (by omega) (by omega) (fun j hj => absurd hj (Nat.not_lt_zero j)) hP hD hS (lv_sub hl [0, 1, 2, 3] rfl)
theorem sqN {x y : Int32} (h : (0 ≤ x ∧ x ≤ 7) ∧ (0 ≤ y ∧ y ≤ 5)) : ∃ q : Nat, q < 48 ∧ 8 * y + x = nI q := by
  obtain ⟨a, ha, rfl⟩ := nI_of2 (x := x) (M := 7) (n := 7) (by decide) (Int32.not_lt.mpr h.1.1) h.1.2
  obtain ⟨b, hb, rfl⟩ := nI_of2 (x := y) (M := 5) (n := 5) (by decide) (Int32.not_lt.mpr h.2.1) h.2.2
  exact ⟨8 * b + a, by omega, sqn b a⟩
