theorem cpy_all (f g : Nat → Int32) : ∀ j, j < 48 → va_cpy f g 0 0 48 j = f j := fun j hj => by
  have e := pk_cpy_in (f := f) (g := g) (sp := 0) (dp := 0) (n := 48) (j := j) (Nat.zero_le j) (by omega)
  rw [e]
  congr 1
  omega
def dn : Nat → Int32
  | 0 => -1
  | k + 1 => nI k
theorem dn_pred (k : Nat) : nI k + (-1) = dn k := by
  cases k with
  | zero => rfl
  | succ k => exact pk_m1 k
def chg (fl fh gl gh : Nat → Int32) (j : Nat) : Bool := decide (gl j ≠ fl j ∨ gh j ≠ fh j)
set_option maxHeartbeats 4000000 in
set_option maxRecDepth 100000 in
theorem c_X3_beginTrial (l : Launch) (dC : Nat → ClassId) (dI : Nat → Nat → Nat) (cI : ClassId) (sz : Nat) (ql : Nat) (lw : Nat) (hg : Nat) (tl : Nat) (th : Nat) (law : Int32) (fl : Nat → Int32) (fh : Nat → Int32) (gl : Nat → Int32) (gh : Nat → Int32)  : Met l yX3_beginTrial wsX3_beginTrial ({ frames := 1, cells := 0, slots := 0, locals := 60 }) (pw (dC, dI) [(cI, .int)] [(ql, .inr (3, [.ref lw, .ref hg, .ref tl, .ref th, .int law])), (lw, .inl (cI, 48, .inl fl)), (hg, .inl (cI, 48, .inl fh)), (tl, .inl (cI, 48, .inl gl)), (th, .inl (cI, 48, .inl gh))] sz [.ref ql]) (va_Qv (fun (_ : Unit) => True) (fun _ t => bw (dC, dI) [(cI, .int)] (va_A [(ql, .inr (3, [.ref lw, .ref hg, .ref tl, .ref th, .int law])), (lw, .inl (cI, 48, .inl fl)), (hg, .inl (cI, 48, .inl fh)), (tl, .inl (cI, 48, .inl gl)), (th, .inl (cI, 48, .inl gh))] sz) [(ql, .inr (3, [.ref lw, .ref hg, .ref tl, .ref th, .int law])), (lw, .inl (cI, 48, .inl fl)), (hg, .inl (cI, 48, .inl fh)), (tl, .inl (cI, 48, .inl fl)), (th, .inl (cI, 48, .inl fh))] t) (va_A [(ql, .inr (3, [.ref lw, .ref hg, .ref tl, .ref th, .int law])), (lw, .inl (cI, 48, .inl fl)), (hg, .inl (cI, 48, .inl fh)), (tl, .inl (cI, 48, .inl gl)), (th, .inl (cI, 48, .inl gh))] sz)) 0 0 (va_A [(ql, .inr (3, [.ref lw, .ref hg, .ref tl, .ref th, .int law])), (lw, .inl (cI, 48, .inl fl)), (hg, .inl (cI, 48, .inl fh)), (tl, .inl (cI, 48, .inl gl)), (th, .inl (cI, 48, .inl gh))] sz) := by
  refine pw_met (cc := cX3_beginTrial) (maxL := 1) (ret := none) (by decide) rfl (Nat.le_of_ble_eq_true rfl) ?_
  intro p e s m below meth c0 hx hb hr hml hown hlocks hnm hts hP hK hD hN hsz hA hS ls hl
  subst hsz
  have hl : lv_has ls 1 [(0, .ref ql)] := hl
  have hiX3 : ∀ w ∈ wsX30, w ∈ wsX3_beginTrial := by decide +kernel
  refine lv_aload_n hx hb dX3_beginTrial_0 rfl (lv_at hl 0 rfl) ?_
  refine va_get (D := (dC, dI)) (ci := 3) (v := .ref lw) (C := RX3) (T := TX3) (N := 5) hx hb hts hiX3 hown hK hP 0 rfl rfl 0 (by decide) (hts (.fieldLink RX3 11 "TributePitches$Lode" "lows" "[I") (by decide +kernel)) (fun _ h9 => h9) rfl dX3_beginTrial_1 ?_
  refine lv_iconst (v := 0) hx hb dX3_beginTrial_4 (by decide) ?_
  refine lv_aload_n hx hb dX3_beginTrial_5 rfl (lv_at hl 0 rfl) ?_
  refine va_get (D := (dC, dI)) (ci := 3) (v := .ref tl) (C := RX3) (T := TX3) (N := 5) hx hb hts hiX3 hown hK hP 0 rfl rfl 2 (by decide) (hts (.fieldLink RX3 18 "TributePitches$Lode" "triedLows" "[I") (by decide +kernel)) (fun _ h9 => h9) rfl dX3_beginTrial_6 ?_
  refine lv_iconst (v := 0) hx hb dX3_beginTrial_9 (by decide) ?_
  refine lv_bipush (v := 48) hx hb dX3_beginTrial_10 (by decide) ?_
  refine va_copyi hx hb (hml.trans hl.1.symm) hown (hts (.methodLink RX3 38 arraycopyName) (by decide +kernel)) (hts (.native arraycopyName) (by decide +kernel)) (hts (.static arraycopyName) (by decide +kernel)) (hts (.initialized "java/lang/System") (by decide +kernel)) hK hP hD hS 1 3 0 0 rfl rfl rfl rfl rfl (by decide) (by decide) (by decide) (by decide) (by decide) (fun _ _ => rfl) (Nat.le_of_ble_eq_true rfl) (Nat.le_of_ble_eq_true rfl) dX3_beginTrial_12 (fun H locs hP hD hS => ?_)
  have hP : va_P (dC, dI) vwCl [(ql, .inr (3, [.ref lw, .ref hg, .ref tl, .ref th, .int law])), (lw, .inl (cI, 48, .inl fl)), (hg, .inl (cI, 48, .inl fh)), (tl, .inl (cI, 48, .inl (va_cpy fl gl 0 0 48))), (th, .inl (cI, 48, .inl gh))] H := hP
  have hD : va_D _ [(ql, .inr (3, [.ref lw, .ref hg, .ref tl, .ref th, .int law])), (lw, .inl (cI, 48, .inl fl)), (hg, .inl (cI, 48, .inl fh)), (tl, .inl (cI, 48, .inl (va_cpy fl gl 0 0 48))), (th, .inl (cI, 48, .inl gh))] := hD
  have hP := va_P_cg hP 3 fl rfl (cpy_all _ _)
  have hD := va_D_cg hD 3 fl rfl
  have hP : va_P (dC, dI) vwCl [(ql, .inr (3, [.ref lw, .ref hg, .ref tl, .ref th, .int law])), (lw, .inl (cI, 48, .inl fl)), (hg, .inl (cI, 48, .inl fh)), (tl, .inl (cI, 48, .inl fl)), (th, .inl (cI, 48, .inl gh))] H := hP
  have hD : va_D _ [(ql, .inr (3, [.ref lw, .ref hg, .ref tl, .ref th, .int law])), (lw, .inl (cI, 48, .inl fl)), (hg, .inl (cI, 48, .inl fh)), (tl, .inl (cI, 48, .inl fl)), (th, .inl (cI, 48, .inl gh))] := hD
  refine lv_aload_n hx hb dX3_beginTrial_15 rfl (lv_at hl 0 rfl) ?_
  refine va_get (D := (dC, dI)) (ci := 3) (v := .ref hg) (C := RX3) (T := TX3) (N := 5) hx hb hts hiX3 hown hK hP 0 rfl rfl 1 (by decide) (hts (.fieldLink RX3 15 "TributePitches$Lode" "highs" "[I") (by decide +kernel)) (fun _ h9 => h9) rfl dX3_beginTrial_16 ?_
  refine lv_iconst (v := 0) hx hb dX3_beginTrial_19 (by decide) ?_
  refine lv_aload_n hx hb dX3_beginTrial_20 rfl (lv_at hl 0 rfl) ?_
  refine va_get (D := (dC, dI)) (ci := 3) (v := .ref th) (C := RX3) (T := TX3) (N := 5) hx hb hts hiX3 hown hK hP 0 rfl rfl 3 (by decide) (hts (.fieldLink RX3 21 "TributePitches$Lode" "triedHighs" "[I") (by decide +kernel)) (fun _ h9 => h9) rfl dX3_beginTrial_21 ?_
  refine lv_iconst (v := 0) hx hb dX3_beginTrial_24 (by decide) ?_
  refine lv_bipush (v := 48) hx hb dX3_beginTrial_25 (by decide) ?_
  refine va_copyi hx hb (hml.trans hl.1.symm) hown (hts (.methodLink RX3 38 arraycopyName) (by decide +kernel)) (hts (.native arraycopyName) (by decide +kernel)) (hts (.static arraycopyName) (by decide +kernel)) (hts (.initialized "java/lang/System") (by decide +kernel)) hK hP hD hS 2 4 0 0 rfl rfl rfl rfl rfl (by decide) (by decide) (by decide) (by decide) (by decide) (fun _ _ => rfl) (Nat.le_of_ble_eq_true rfl) (Nat.le_of_ble_eq_true rfl) dX3_beginTrial_27 (fun H locs hP hD hS => ?_)
  have hP : va_P (dC, dI) vwCl [(ql, .inr (3, [.ref lw, .ref hg, .ref tl, .ref th, .int law])), (lw, .inl (cI, 48, .inl fl)), (hg, .inl (cI, 48, .inl fh)), (tl, .inl (cI, 48, .inl fl)), (th, .inl (cI, 48, .inl (va_cpy fh gh 0 0 48)))] H := hP
  have hD : va_D _ [(ql, .inr (3, [.ref lw, .ref hg, .ref tl, .ref th, .int law])), (lw, .inl (cI, 48, .inl fl)), (hg, .inl (cI, 48, .inl fh)), (tl, .inl (cI, 48, .inl fl)), (th, .inl (cI, 48, .inl (va_cpy fh gh 0 0 48)))] := hD
  have hP := va_P_cg hP 4 fh rfl (cpy_all _ _)
  have hD := va_D_cg hD 4 fh rfl
  have hP : va_P (dC, dI) vwCl [(ql, .inr (3, [.ref lw, .ref hg, .ref tl, .ref th, .int law])), (lw, .inl (cI, 48, .inl fl)), (hg, .inl (cI, 48, .inl fh)), (tl, .inl (cI, 48, .inl fl)), (th, .inl (cI, 48, .inl fh))] H := hP
  have hD : va_D _ [(ql, .inr (3, [.ref lw, .ref hg, .ref tl, .ref th, .int law])), (lw, .inl (cI, 48, .inl fl)), (hg, .inl (cI, 48, .inl fh)), (tl, .inl (cI, 48, .inl fl)), (th, .inl (cI, 48, .inl fh))] := hD
  have hP9 := hP.sub (ws' := [(ql, .inr (3, [.ref lw, .ref hg, .ref tl, .ref th, .int law])), (lw, .inl (cI, 48, .inl fl)), (hg, .inl (cI, 48, .inl fh)), (tl, .inl (cI, 48, .inl fl)), (th, .inl (cI, 48, .inl fh))]) [0, 1, 2, 3, 4] rfl
  have hD9 := hD.sub (ws' := [(ql, .inr (3, [.ref lw, .ref hg, .ref tl, .ref th, .int law])), (lw, .inl (cI, 48, .inl fl)), (hg, .inl (cI, 48, .inl fh)), (tl, .inl (cI, 48, .inl fl)), (th, .inl (cI, 48, .inl fh))]) [0, 1, 2, 3, 4] (by decide) rfl
  have hK9 := hK.sub (tys' := [(cI, .int)]) [0] rfl
  exact W.vret hx hb hr (fun t ht hW => ⟨⟨(), rfl, trivial, ⟨by rw [ht]; exact hP9, va_K.moved hW.alike hK9, hD9⟩⟩, hS.F ht⟩) hS.2.2 dX3_beginTrial_30
set_option maxHeartbeats 4000000 in
set_option maxRecDepth 100000 in
theorem c_X3_tryCommon (l : Launch) (dC : Nat → ClassId) (dI : Nat → Nat → Nat) (cI : ClassId) (sz : Nat) (ql : Nat) (tl : Nat) (th : Nat) (u0 : Value) (u1 : Value) (u4 : Value) (sq : Int32) (lo : Int32) (hi : Int32) (gl : Nat → Int32) (gh : Nat → Int32) (hq : vp_in sq 48) : Met l yX3_tryCommon wsX3_tryCommon ({ frames := 1, cells := 0, slots := 0, locals := 30 }) (pw (dC, dI) [(cI, .int)] [(ql, .inr (3, [u0, u1, .ref tl, .ref th, u4])), (tl, .inl (cI, 48, .inl gl)), (th, .inl (cI, 48, .inl gh))] sz [.ref ql, .int sq, .int lo, .int hi]) (va_Qv (fun (_ : Unit) => True) (fun _ t => bw (dC, dI) [(cI, .int)] (va_A [(ql, .inr (3, [u0, u1, .ref tl, .ref th, u4])), (tl, .inl (cI, 48, .inl gl)), (th, .inl (cI, 48, .inl gh))] sz) [(ql, .inr (3, [u0, u1, .ref tl, .ref th, u4])), (tl, .inl (cI, 48, .inl (upd gl (sq).toNatClampNeg (if (gl (sq).toNatClampNeg) < lo then lo else (gl (sq).toNatClampNeg))))), (th, .inl (cI, 48, .inl (upd gh (sq).toNatClampNeg (if hi < (gh (sq).toNatClampNeg) then hi else (gh (sq).toNatClampNeg)))))] t) (va_A [(ql, .inr (3, [u0, u1, .ref tl, .ref th, u4])), (tl, .inl (cI, 48, .inl gl)), (th, .inl (cI, 48, .inl gh))] sz)) 0 0 (va_A [(ql, .inr (3, [u0, u1, .ref tl, .ref th, u4])), (tl, .inl (cI, 48, .inl gl)), (th, .inl (cI, 48, .inl gh))] sz) := by
  refine pw_met (cc := cX3_tryCommon) (maxL := 4) (ret := none) (by decide) rfl (Nat.le_of_ble_eq_true rfl) ?_
  intro p e s m below meth c0 hx hb hr hml hown hlocks hnm hts hP hK hD hN hsz hA hS ls hl
  subst hsz
  have hl : lv_has ls 4 [(0, .ref ql), (1, .int sq), (2, .int lo), (3, .int hi)] := hl
  have hiX3 : ∀ w ∈ wsX30, w ∈ wsX3_tryCommon := by decide +kernel
  refine lv_aload_n hx hb dX3_tryCommon_0 rfl (lv_at hl 0 rfl) ?_
  refine va_get (D := (dC, dI)) (ci := 3) (v := .ref tl) (C := RX3) (T := TX3) (N := 5) hx hb hts hiX3 hown hK hP 0 rfl rfl 2 (by decide) (hts (.fieldLink RX3 18 "TributePitches$Lode" "triedLows" "[I") (by decide +kernel)) (fun _ h9 => h9) rfl dX3_tryCommon_1 ?_
  refine lv_iload_n hx hb dX3_tryCommon_4 rfl (lv_at hl 1 rfl) ?_
  refine lv_aload_n hx hb dX3_tryCommon_5 rfl (lv_at hl 0 rfl) ?_
  refine va_get (D := (dC, dI)) (ci := 3) (v := .ref tl) (C := RX3) (T := TX3) (N := 5) hx hb hts hiX3 hown hK hP 0 rfl rfl 2 (by decide) (hts (.fieldLink RX3 18 "TributePitches$Lode" "triedLows" "[I") (by decide +kernel)) (fun _ h9 => h9) rfl dX3_tryCommon_6 ?_
  refine lv_iload_n hx hb dX3_tryCommon_9 rfl (lv_at hl 1 rfl) ?_
  refine va_iald hx hb hK hP 1 0 rfl rfl hq dX3_tryCommon_10 ?_
  refine lv_iload_n hx hb dX3_tryCommon_11 rfl (lv_at hl 2 rfl) ?_
  refine va_mmax hx hb (hml.trans hl.1.symm) hown (hts (.methodLink RX3 44 Lib.Math.max.name) (by decide +kernel)) (hts (.static Lib.Math.max.name) (by decide +kernel)) (hts (.initialized "java/lang/Math") (by decide +kernel)) (hts (.code Lib.Math.max.name Lib.Math.max.code 2 (some .int)) (by decide +kernel)) (Nat.le_of_ble_eq_true rfl) (Nat.le_of_ble_eq_true rfl) (Nat.le_of_ble_eq_true rfl) (Nat.le_of_ble_eq_true rfl) dX3_tryCommon_12 ?_
  refine va_iast hx hb hK hP hD hS 1 0 rfl rfl hq dX3_tryCommon_15 (fun H locs hP hD hS => ?_)
  have hP : va_P (dC, dI) vwCl [(ql, .inr (3, [u0, u1, .ref tl, .ref th, u4])), (tl, .inl (cI, 48, .inl (upd gl (sq).toNatClampNeg (if (gl (sq).toNatClampNeg) < lo then lo else (gl (sq).toNatClampNeg))))), (th, .inl (cI, 48, .inl gh))] H := hP
  have hD : va_D _ [(ql, .inr (3, [u0, u1, .ref tl, .ref th, u4])), (tl, .inl (cI, 48, .inl (upd gl (sq).toNatClampNeg (if (gl (sq).toNatClampNeg) < lo then lo else (gl (sq).toNatClampNeg))))), (th, .inl (cI, 48, .inl gh))] := hD
  refine lv_aload_n hx hb dX3_tryCommon_16 rfl (lv_at hl 0 rfl) ?_
  refine va_get (D := (dC, dI)) (ci := 3) (v := .ref th) (C := RX3) (T := TX3) (N := 5) hx hb hts hiX3 hown hK hP 0 rfl rfl 3 (by decide) (hts (.fieldLink RX3 21 "TributePitches$Lode" "triedHighs" "[I") (by decide +kernel)) (fun _ h9 => h9) rfl dX3_tryCommon_17 ?_
  refine lv_iload_n hx hb dX3_tryCommon_20 rfl (lv_at hl 1 rfl) ?_
  refine lv_aload_n hx hb dX3_tryCommon_21 rfl (lv_at hl 0 rfl) ?_
  refine va_get (D := (dC, dI)) (ci := 3) (v := .ref th) (C := RX3) (T := TX3) (N := 5) hx hb hts hiX3 hown hK hP 0 rfl rfl 3 (by decide) (hts (.fieldLink RX3 21 "TributePitches$Lode" "triedHighs" "[I") (by decide +kernel)) (fun _ h9 => h9) rfl dX3_tryCommon_22 ?_
  refine lv_iload_n hx hb dX3_tryCommon_25 rfl (lv_at hl 1 rfl) ?_
  refine va_iald hx hb hK hP 2 0 rfl rfl hq dX3_tryCommon_26 ?_
  refine lv_iload_n hx hb dX3_tryCommon_27 rfl (lv_at hl 3 rfl) ?_
  refine va_mmin hx hb (hml.trans hl.1.symm) hown (hts (.methodLink RX3 50 Lib.Math.min.name) (by decide +kernel)) (hts (.static Lib.Math.min.name) (by decide +kernel)) (hts (.initialized "java/lang/Math") (by decide +kernel)) (hts (.code Lib.Math.min.name Lib.Math.min.code 2 (some .int)) (by decide +kernel)) (Nat.le_of_ble_eq_true rfl) (Nat.le_of_ble_eq_true rfl) (Nat.le_of_ble_eq_true rfl) (Nat.le_of_ble_eq_true rfl) dX3_tryCommon_28 ?_
  refine va_iast hx hb hK hP hD hS 2 0 rfl rfl hq dX3_tryCommon_31 (fun H locs hP hD hS => ?_)
  have hP : va_P (dC, dI) vwCl [(ql, .inr (3, [u0, u1, .ref tl, .ref th, u4])), (tl, .inl (cI, 48, .inl (upd gl (sq).toNatClampNeg (if (gl (sq).toNatClampNeg) < lo then lo else (gl (sq).toNatClampNeg))))), (th, .inl (cI, 48, .inl (upd gh (sq).toNatClampNeg (if hi < (gh (sq).toNatClampNeg) then hi else (gh (sq).toNatClampNeg)))))] H := hP
  have hD : va_D _ [(ql, .inr (3, [u0, u1, .ref tl, .ref th, u4])), (tl, .inl (cI, 48, .inl (upd gl (sq).toNatClampNeg (if (gl (sq).toNatClampNeg) < lo then lo else (gl (sq).toNatClampNeg))))), (th, .inl (cI, 48, .inl (upd gh (sq).toNatClampNeg (if hi < (gh (sq).toNatClampNeg) then hi else (gh (sq).toNatClampNeg)))))] := hD
  have hP9 := hP.sub (ws' := [(ql, .inr (3, [u0, u1, .ref tl, .ref th, u4])), (tl, .inl (cI, 48, .inl (upd gl (sq).toNatClampNeg (if (gl (sq).toNatClampNeg) < lo then lo else (gl (sq).toNatClampNeg))))), (th, .inl (cI, 48, .inl (upd gh (sq).toNatClampNeg (if hi < (gh (sq).toNatClampNeg) then hi else (gh (sq).toNatClampNeg)))))]) [0, 1, 2] rfl
  have hD9 := hD.sub (ws' := [(ql, .inr (3, [u0, u1, .ref tl, .ref th, u4])), (tl, .inl (cI, 48, .inl (upd gl (sq).toNatClampNeg (if (gl (sq).toNatClampNeg) < lo then lo else (gl (sq).toNatClampNeg))))), (th, .inl (cI, 48, .inl (upd gh (sq).toNatClampNeg (if hi < (gh (sq).toNatClampNeg) then hi else (gh (sq).toNatClampNeg)))))]) [0, 1, 2] (by decide) rfl
  have hK9 := hK.sub (tys' := [(cI, .int)]) [0] rfl
  exact W.vret hx hb hr (fun t ht hW => ⟨⟨(), rfl, trivial, ⟨by rw [ht]; exact hP9, va_K.moved hW.alike hK9, hD9⟩⟩, hS.F ht⟩) hS.2.2 dX3_tryCommon_32
set_option maxHeartbeats 4000000 in
set_option maxRecDepth 100000 in
theorem c_X3_tryNeighbour (l : Launch) (dC : Nat → ClassId) (dI : Nat → Nat → Nat) (cI : ClassId) (sz : Nat) (ql : Nat) (tl : Nat) (th : Nat) (u0 : Value) (u1 : Value) (u4 : Value) (sq : Int32) (nb : Int32) (dd : Int32) (gl : Nat → Int32) (gh : Nat → Int32) (hq : vp_in sq 48) (hnb : vp_in nb 48) (h1 : ¬ gl sq.toNatClampNeg < gl nb.toNatClampNeg - dd) (h2 : ¬ gh nb.toNatClampNeg + dd < gh sq.toNatClampNeg) : Met l yX3_tryNeighbour wsX3_tryNeighbour ({ frames := 2, cells := 0, slots := 0, locals := 60 }) (pw (dC, dI) [(cI, .int)] [(ql, .inr (3, [u0, u1, .ref tl, .ref th, u4])), (tl, .inl (cI, 48, .inl gl)), (th, .inl (cI, 48, .inl gh))] sz [.ref ql, .int sq, .int nb, .int dd]) (va_Qv (fun (_ : Unit) => True) (fun _ t => bw (dC, dI) [(cI, .int)] (va_A [(ql, .inr (3, [u0, u1, .ref tl, .ref th, u4])), (tl, .inl (cI, 48, .inl gl)), (th, .inl (cI, 48, .inl gh))] sz) [(ql, .inr (3, [u0, u1, .ref tl, .ref th, u4])), (tl, .inl (cI, 48, .inl gl)), (th, .inl (cI, 48, .inl gh))] t) (va_A [(ql, .inr (3, [u0, u1, .ref tl, .ref th, u4])), (tl, .inl (cI, 48, .inl gl)), (th, .inl (cI, 48, .inl gh))] sz)) 0 0 (va_A [(ql, .inr (3, [u0, u1, .ref tl, .ref th, u4])), (tl, .inl (cI, 48, .inl gl)), (th, .inl (cI, 48, .inl gh))] sz) := by
  refine pw_met (cc := cX3_tryNeighbour) (maxL := 4) (ret := none) (by decide) rfl (Nat.le_of_ble_eq_true rfl) ?_
  intro p e s m below meth c0 hx hb hr hml hown hlocks hnm hts hP hK hD hN hsz hA hS ls hl
  subst hsz
  have hl : lv_has ls 4 [(0, .ref ql), (1, .int sq), (2, .int nb), (3, .int dd)] := hl
  have hiX3 : ∀ w ∈ wsX30, w ∈ wsX3_tryNeighbour := by decide +kernel
  refine lv_aload_n hx hb dX3_tryNeighbour_0 rfl (lv_at hl 0 rfl) ?_
  refine lv_iload_n hx hb dX3_tryNeighbour_1 rfl (lv_at hl 1 rfl) ?_
  refine lv_aload_n hx hb dX3_tryNeighbour_2 rfl (lv_at hl 0 rfl) ?_
  refine va_get (D := (dC, dI)) (ci := 3) (v := .ref tl) (C := RX3) (T := TX3) (N := 5) hx hb hts hiX3 hown hK hP 0 rfl rfl 2 (by decide) (hts (.fieldLink RX3 18 "TributePitches$Lode" "triedLows" "[I") (by decide +kernel)) (fun _ h9 => h9) rfl dX3_tryNeighbour_3 ?_
  refine lv_iload_n hx hb dX3_tryNeighbour_6 rfl (lv_at hl 2 rfl) ?_
  refine va_iald hx hb hK hP 1 0 rfl rfl hnb dX3_tryNeighbour_7 ?_
  refine lv_iload_n hx hb dX3_tryNeighbour_8 rfl (lv_at hl 3 rfl) ?_
  refine lv_isub hx hb dX3_tryNeighbour_9 ?_
  refine lv_aload_n hx hb dX3_tryNeighbour_10 rfl (lv_at hl 0 rfl) ?_
  refine va_get (D := (dC, dI)) (ci := 3) (v := .ref th) (C := RX3) (T := TX3) (N := 5) hx hb hts hiX3 hown hK hP 0 rfl rfl 3 (by decide) (hts (.fieldLink RX3 21 "TributePitches$Lode" "triedHighs" "[I") (by decide +kernel)) (fun _ h9 => h9) rfl dX3_tryNeighbour_11 ?_
  refine lv_iload_n hx hb dX3_tryNeighbour_14 rfl (lv_at hl 2 rfl) ?_
  refine va_iald hx hb hK hP 2 0 rfl rfl hnb dX3_tryNeighbour_15 ?_
  refine lv_iload_n hx hb dX3_tryNeighbour_16 rfl (lv_at hl 3 rfl) ?_
  refine lv_iadd hx hb dX3_tryNeighbour_17 ?_
  have hPc := hP.sub (ws' := [(ql, .inr (3, [u0, u1, .ref tl, .ref th, u4])), (tl, .inl (cI, 48, .inl gl)), (th, .inl (cI, 48, .inl gh))]) [0, 1, 2] rfl
  have hDc := hD.sub (ws' := [(ql, .inr (3, [u0, u1, .ref tl, .ref th, u4])), (tl, .inl (cI, 48, .inl gl)), (th, .inl (cI, 48, .inl gh))]) [0, 1, 2] (by decide) rfl
  have hKc := hK.sub (tys' := [(cI, .int)]) [0] rfl
  have hFc := va_free (wc := [(ql, .inr (3, [u0, u1, .ref tl, .ref th, u4])), (tl, .inl (cI, 48, .inl gl)), (th, .inl (cI, 48, .inl gh))]) hD hS hA [0, 1, 2] rfl
  refine va_callv (va_runV (As := [.int sq, .int ((gl (nb).toNatClampNeg) - dd), .int ((gh (nb).toNatClampNeg) + dd)]) (rest := []) ⟨hx, hb, hml, hown, hts⟩ (c_X3_tryCommon l dC dI cI _ ql tl th u0 u1 u4 sq ((gl (nb).toNatClampNeg) - dd) ((gh (nb).toNatClampNeg) + dd) gl gh hq) (cwV 3 hts gX3_tryNeighbour_X3_tryCommon rfl rfl rfl (by decide +kernel) ⟨Nat.le_of_ble_eq_true rfl, Nat.le_of_ble_eq_true rfl⟩) (pw_preV (va_recv hKc hPc (ci := 3) (q0 := 0) rfl rfl) hPc hKc hDc hN) rfl rfl hl.1 rfl (lv_room (Nat.le_of_ble_eq_true rfl)) dX3_tryNeighbour_18 ⟨Nat.le_of_ble_eq_true rfl, Nat.le_of_ble_eq_true rfl⟩) hS (fun q _ h => hFc q h) hFc (fun u t H1 locs ht hvm hw hB hz1 hk1 hS => ?_)
  obtain ⟨hP1, hK1, hD1⟩ := hB
  rw [ht] at hP1
  obtain ⟨hP, hD⟩ := va_join (wr := []) (w1 := [(ql, .inr (3, [u0, u1, .ref tl, .ref th, u4])), (tl, .inl (cI, 48, .inl (upd gl (sq).toNatClampNeg (if (gl (sq).toNatClampNeg) < ((gl (nb).toNatClampNeg) - dd) then ((gl (nb).toNatClampNeg) - dd) else (gl (sq).toNatClampNeg))))), (th, .inl (cI, 48, .inl (upd gh (sq).toNatClampNeg (if ((gh (nb).toNatClampNeg) + dd) < (gh (sq).toNatClampNeg) then ((gh (nb).toNatClampNeg) + dd) else (gh (sq).toNatClampNeg)))))]) hP hD [0, 1, 2] [] rfl rfl (by decide) (by decide) hk1 hFc hP1 hD1
  generalize H1 = H at hP hS ⊢
  have hP : va_P (dC, dI) vwCl [(ql, .inr (3, [u0, u1, .ref tl, .ref th, u4])), (tl, .inl (cI, 48, .inl (upd gl (sq).toNatClampNeg (if (gl (sq).toNatClampNeg) < ((gl (nb).toNatClampNeg) - dd) then ((gl (nb).toNatClampNeg) - dd) else (gl (sq).toNatClampNeg))))), (th, .inl (cI, 48, .inl (upd gh (sq).toNatClampNeg (if ((gh (nb).toNatClampNeg) + dd) < (gh (sq).toNatClampNeg) then ((gh (nb).toNatClampNeg) + dd) else (gh (sq).toNatClampNeg)))))] H := hP
  have hD : va_D _ [(ql, .inr (3, [u0, u1, .ref tl, .ref th, u4])), (tl, .inl (cI, 48, .inl (upd gl (sq).toNatClampNeg (if (gl (sq).toNatClampNeg) < ((gl (nb).toNatClampNeg) - dd) then ((gl (nb).toNatClampNeg) - dd) else (gl (sq).toNatClampNeg))))), (th, .inl (cI, 48, .inl (upd gh (sq).toNatClampNeg (if ((gh (nb).toNatClampNeg) + dd) < (gh (sq).toNatClampNeg) then ((gh (nb).toNatClampNeg) + dd) else (gh (sq).toNatClampNeg)))))] := hD
  have hP := va_P_cg hP 1 gl rfl (fun j _ => by rw [if_neg h1]; exact congrFun (fa_upd_same rfl) j)
  have hD := va_D_cg hD 1 gl rfl
  have hP : va_P (dC, dI) vwCl [(ql, .inr (3, [u0, u1, .ref tl, .ref th, u4])), (tl, .inl (cI, 48, .inl gl)), (th, .inl (cI, 48, .inl (upd gh (sq).toNatClampNeg (if ((gh (nb).toNatClampNeg) + dd) < (gh (sq).toNatClampNeg) then ((gh (nb).toNatClampNeg) + dd) else (gh (sq).toNatClampNeg)))))] H := hP
  have hD : va_D _ [(ql, .inr (3, [u0, u1, .ref tl, .ref th, u4])), (tl, .inl (cI, 48, .inl gl)), (th, .inl (cI, 48, .inl (upd gh (sq).toNatClampNeg (if ((gh (nb).toNatClampNeg) + dd) < (gh (sq).toNatClampNeg) then ((gh (nb).toNatClampNeg) + dd) else (gh (sq).toNatClampNeg)))))] := hD
  have hP := va_P_cg hP 2 gh rfl (fun j _ => by rw [if_neg h2]; exact congrFun (fa_upd_same rfl) j)
  have hD := va_D_cg hD 2 gh rfl
  have hP : va_P (dC, dI) vwCl [(ql, .inr (3, [u0, u1, .ref tl, .ref th, u4])), (tl, .inl (cI, 48, .inl gl)), (th, .inl (cI, 48, .inl gh))] H := hP
  have hD : va_D _ [(ql, .inr (3, [u0, u1, .ref tl, .ref th, u4])), (tl, .inl (cI, 48, .inl gl)), (th, .inl (cI, 48, .inl gh))] := hD
  have hP9 := hP.sub (ws' := [(ql, .inr (3, [u0, u1, .ref tl, .ref th, u4])), (tl, .inl (cI, 48, .inl gl)), (th, .inl (cI, 48, .inl gh))]) [0, 1, 2] rfl
  have hD9 := hD.sub (ws' := [(ql, .inr (3, [u0, u1, .ref tl, .ref th, u4])), (tl, .inl (cI, 48, .inl gl)), (th, .inl (cI, 48, .inl gh))]) [0, 1, 2] (by decide) rfl
  have hK9 := hK.sub (tys' := [(cI, .int)]) [0] rfl
  exact W.vret hx hb hr (fun t ht hW => ⟨⟨(), rfl, trivial, ⟨by rw [ht]; exact hP9, va_K.moved hW.alike hK9, hD9⟩⟩, hS.F ht⟩) hS.2.2 dX3_tryNeighbour_21
set_option maxHeartbeats 4000000 in
set_option maxRecDepth 100000 in
theorem c_X3_narrowTrial (l : Launch) (dC : Nat → ClassId) (dI : Nat → Nat → Nat) (cI : ClassId) (sz : Nat) (ql : Nat) (tl : Nat) (th : Nat) (u0 : Value) (u1 : Value) (u4 : Value) (dd : Int32) (gl : Nat → Int32) (gh : Nat → Int32) (hna : ∀ i j : Nat, i < 48 → j < 48 → ¬ gl i < gl j - dd ∧ ¬ gh j + dd < gh i) : Met l yX3_narrowTrial wsX3_narrowTrial ({ frames := 3, cells := 0, slots := 0, locals := 90 }) (pw (dC, dI) [(cI, .int)] [(ql, .inr (3, [u0, u1, .ref tl, .ref th, u4])), (tl, .inl (cI, 48, .inl gl)), (th, .inl (cI, 48, .inl gh))] sz [.ref ql, .int dd]) (va_Qv (fun (_ : Unit) => True) (fun _ t => bw (dC, dI) [(cI, .int)] (va_A [(ql, .inr (3, [u0, u1, .ref tl, .ref th, u4])), (tl, .inl (cI, 48, .inl gl)), (th, .inl (cI, 48, .inl gh))] sz) [(ql, .inr (3, [u0, u1, .ref tl, .ref th, u4])), (tl, .inl (cI, 48, .inl gl)), (th, .inl (cI, 48, .inl gh))] t) (va_A [(ql, .inr (3, [u0, u1, .ref tl, .ref th, u4])), (tl, .inl (cI, 48, .inl gl)), (th, .inl (cI, 48, .inl gh))] sz)) 0 0 (va_A [(ql, .inr (3, [u0, u1, .ref tl, .ref th, u4])), (tl, .inl (cI, 48, .inl gl)), (th, .inl (cI, 48, .inl gh))] sz) := by
  refine pw_met (cc := cX3_narrowTrial) (maxL := 3) (ret := none) (by decide) rfl (Nat.le_of_ble_eq_true rfl) ?_
  intro p e s m below meth c0 hx hb hr hml hown hlocks hnm hts hP hK hD hN hsz hA hS ls hl
  subst hsz
  have hl : lv_has ls 3 [(0, .ref ql), (1, .int dd)] := hl
  obtain ⟨Q, hQ⟩ : ∃ Q : State → Prop, Q = MQ below (va_Qv (fun (_ : Unit) => True) (fun _ t => bw (dC, dI) [(cI, .int)] (va_A [(ql, .inr (3, [u0, u1, .ref tl, .ref th, u4])), (tl, .inl (cI, 48, .inl gl)), (th, .inl (cI, 48, .inl gh))] s.heap.size) [(ql, .inr (3, [u0, u1, .ref tl, .ref th, u4])), (tl, .inl (cI, 48, .inl gl)), (th, .inl (cI, 48, .inl gh))] t) (va_A [(ql, .inr (3, [u0, u1, .ref tl, .ref th, u4])), (tl, .inl (cI, 48, .inl gl)), (th, .inl (cI, 48, .inl gh))] s.heap.size)) ([.ref ql, .int dd] : List Value).toArray s 0 0 (va_A [(ql, .inr (3, [u0, u1, .ref tl, .ref th, u4])), (tl, .inl (cI, 48, .inl gl)), (th, .inl (cI, 48, .inl gh))] s.heap.size) := ⟨_, rfl⟩
  rw [← hQ]
  refine lv_iconst (v := 0) hx hb dX3_narrowTrial_0 (by decide) ?_
  refine lv_istore_n (lv' := [(2, .int 0), (0, .ref ql), (1, .int dd)]) hx hb dX3_narrowTrial_1 rfl hl (by decide) rfl (fun ls hl => ?_)
  have loop2 : ∀ (ni2 i2 : Nat) (H : Heap) (locs : List Loc) (ls : Array Slot), i2 ≤ 48 → 48 + 1 ≤ i2 + ni2 → va_P (dC, dI) vwCl [(ql, .inr (3, [u0, u1, .ref tl, .ref th, u4])), (tl, .inl (cI, 48, .inl gl)), (th, .inl (cI, 48, .inl gh))] H → va_D (va_A [(ql, .inr (3, [u0, u1, .ref tl, .ref th, u4])), (tl, .inl (cI, 48, .inl gl)), (th, .inl (cI, 48, .inl gh))] s.heap.size) [(ql, .inr (3, [u0, u1, .ref tl, .ref th, u4])), (tl, .inl (cI, 48, .inl gl)), (th, .inl (cI, 48, .inl gh))] → va_S (va_A [(ql, .inr (3, [u0, u1, .ref tl, .ref th, u4])), (tl, .inl (cI, 48, .inl gl)), (th, .inl (cI, 48, .inl gh))] s.heap.size) s.heap H locs → lv_has ls 3 [(2, .int (nI i2)), (0, .ref ql), (1, .int dd)] → W p l e ({ frames := 3, cells := 0, slots := 0, locals := 90 } : Room) s m ([.ref ql, .int dd] : List Value).toArray below meth c0 H locs 0 0 Q (F0 m 2 ls []) := by
    intro ni2
    induction ni2 with
    | zero =>
      intro i2  H locs ls h1 h2
      exact absurd h2 (by omega)
    | succ ni2 ihi2 =>
      intro i2  H locs ls hlei2 hni2  hP hD hS hl
      refine lv_iload_n hx hb dX3_narrowTrial_2 rfl (lv_at hl 0 rfl) ?_
      refine lv_bipush (v := 48) hx hb dX3_narrowTrial_3 (by decide) ?_
      refine lv_icmp_ge (tgt := 46) hx hb dX3_narrowTrial_5 (by decide) (fun c1 => ?_) (fun c1 => ?_)
      · skip
        have hei2 : i2 = 48 := (Nat.lt_or_ge i2 48).elim (fun q => absurd c1 (show ¬ nI 48 ≤ nI i2 from nI_ge q (by omega))) (fun q => by omega)
        refine lv_bipush (v := 47) hx hb dX3_narrowTrial_46 (by decide) ?_
        refine lv_istore_n (lv' := [(2, .int 47), (0, .ref ql), (1, .int dd)]) hx hb dX3_narrowTrial_48 rfl hl (by decide) rfl (fun ls hl => ?_)
        have loop49 : ∀ (i49 : Nat) (H : Heap) (locs : List Loc) (ls : Array Slot), i49 ≤ 48 → va_P (dC, dI) vwCl [(ql, .inr (3, [u0, u1, .ref tl, .ref th, u4])), (tl, .inl (cI, 48, .inl gl)), (th, .inl (cI, 48, .inl gh))] H → va_D (va_A [(ql, .inr (3, [u0, u1, .ref tl, .ref th, u4])), (tl, .inl (cI, 48, .inl gl)), (th, .inl (cI, 48, .inl gh))] s.heap.size) [(ql, .inr (3, [u0, u1, .ref tl, .ref th, u4])), (tl, .inl (cI, 48, .inl gl)), (th, .inl (cI, 48, .inl gh))] → va_S (va_A [(ql, .inr (3, [u0, u1, .ref tl, .ref th, u4])), (tl, .inl (cI, 48, .inl gl)), (th, .inl (cI, 48, .inl gh))] s.heap.size) s.heap H locs → lv_has ls 3 [(2, .int (dn i49)), (0, .ref ql), (1, .int dd)] → W p l e ({ frames := 3, cells := 0, slots := 0, locals := 90 } : Room) s m ([.ref ql, .int dd] : List Value).toArray below meth c0 H locs 0 0 Q (F0 m 49 ls []) := by
          intro i49
          induction i49 with
          | zero =>
            intro  H locs ls hle  hP hD hS hl
            have hl : lv_has ls 3 [(2, .int (-1)), (0, .ref ql), (1, .int dd)] := hl
            refine lv_iload_n hx hb dX3_narrowTrial_49 rfl (lv_at hl 0 rfl) ?_
            refine lv_if_lt (tgt := 93) hx hb dX3_narrowTrial_50 (by decide) (fun c2 => ?_) (fun c2 => ?_)
            · skip
              rw [hQ]
              have hP9 := hP.sub (ws' := [(ql, .inr (3, [u0, u1, .ref tl, .ref th, u4])), (tl, .inl (cI, 48, .inl gl)), (th, .inl (cI, 48, .inl gh))]) [0, 1, 2] rfl
              have hD9 := hD.sub (ws' := [(ql, .inr (3, [u0, u1, .ref tl, .ref th, u4])), (tl, .inl (cI, 48, .inl gl)), (th, .inl (cI, 48, .inl gh))]) [0, 1, 2] (by decide) rfl
              have hK9 := hK.sub (tys' := [(cI, .int)]) [0] rfl
              exact W.vret hx hb hr (fun t ht hW => ⟨⟨(), rfl, trivial, ⟨by rw [ht]; exact hP9, va_K.moved hW.alike hK9, hD9⟩⟩, hS.F ht⟩) hS.2.2 dX3_narrowTrial_93
            · exact absurd c2 (by decide)
          | succ i49 ih =>
            intro  H locs ls hle  hP hD hS hl
            have hl : lv_has ls 3 [(2, .int (nI i49)), (0, .ref ql), (1, .int dd)] := hl
            refine lv_iload_n hx hb dX3_narrowTrial_49 rfl (lv_at hl 0 rfl) ?_
            refine lv_if_lt (tgt := 93) hx hb dX3_narrowTrial_50 (by decide) (fun c3 => ?_) (fun c3 => ?_)
            · exact absurd c3 (nI_pos (by omega))
            · skip
              refine lv_iload_n hx hb dX3_narrowTrial_53 rfl (lv_at hl 0 rfl) ?_
              refine lv_bipush (v := 8) hx hb dX3_narrowTrial_54 (by decide) ?_
              refine lv_irem hx hb dX3_narrowTrial_56 (by decide) ?_
              refine lv_topi (fun v56 ev56 => ?_)
              have ev56 : v56 = nI (i49 % 8) := by rw [ev56]; exact pk_rem (d := 8) (by omega) (by decide) (by decide)
              subst ev56
              refine lv_bipush (v := 7) hx hb dX3_narrowTrial_57 (by decide) ?_
              refine lv_icmp_ge (tgt := 71) hx hb dX3_narrowTrial_59 (by decide) (fun c4 => ?_) (fun c4 => ?_)
              · skip
                refine lv_iload_n hx hb dX3_narrowTrial_71 rfl (lv_at hl 0 rfl) ?_
                refine lv_bipush (v := 40) hx hb dX3_narrowTrial_72 (by decide) ?_
                refine lv_icmp_ge (tgt := 87) hx hb dX3_narrowTrial_74 (by decide) (fun c5 => ?_) (fun c5 => ?_)
                · skip
                  refine lv_iinc (v := dn i49) (lv' := [(2, .int (dn i49)), (0, .ref ql), (1, .int dd)]) hx hb dX3_narrowTrial_87 hl (k := 0) rfl (dn_pred i49) (by decide) rfl (fun ls hl => ?_)
                  refine lv_goto (tgt := 49) hx hb dX3_narrowTrial_90 (by decide) ?_
                  exact ih  _ _ ls (by omega)  (hP.sub [0, 1, 2] rfl) (hD.sub [0, 1, 2] (by decide) rfl) hS (lv_sub hl [0, 1, 2] rfl)
                · skip
                  have hp : i49 < 40 := (Nat.lt_or_ge i49 40).elim id (fun q => absurd (show nI 40 ≤ nI i49 from nI_le q (by omega)) c5)
                  refine lv_aload_n hx hb dX3_narrowTrial_77 rfl (lv_at hl 1 rfl) ?_
                  refine lv_iload_n hx hb dX3_narrowTrial_78 rfl (lv_at hl 0 rfl) ?_
                  refine lv_iload_n hx hb dX3_narrowTrial_79 rfl (lv_at hl 0 rfl) ?_
                  refine lv_bipush (v := 8) hx hb dX3_narrowTrial_80 (by decide) ?_
                  refine lv_iadd hx hb dX3_narrowTrial_82 ?_
                  refine lv_topi (fun v82 ev82 => ?_)
                  have ev82 : v82 = nI (i49 + 8) := by rw [ev82]; exact nI_add i49 8
                  subst ev82
                  refine lv_iload_n hx hb dX3_narrowTrial_83 rfl (lv_at hl 2 rfl) ?_
                  have hPc := hP.sub (ws' := [(ql, .inr (3, [u0, u1, .ref tl, .ref th, u4])), (tl, .inl (cI, 48, .inl gl)), (th, .inl (cI, 48, .inl gh))]) [0, 1, 2] rfl
                  have hDc := hD.sub (ws' := [(ql, .inr (3, [u0, u1, .ref tl, .ref th, u4])), (tl, .inl (cI, 48, .inl gl)), (th, .inl (cI, 48, .inl gh))]) [0, 1, 2] (by decide) rfl
                  have hKc := hK.sub (tys' := [(cI, .int)]) [0] rfl
                  have hFc := va_free (wc := [(ql, .inr (3, [u0, u1, .ref tl, .ref th, u4])), (tl, .inl (cI, 48, .inl gl)), (th, .inl (cI, 48, .inl gh))]) hD hS hA [0, 1, 2] rfl
                  refine va_callv (va_runV (As := [.int (nI i49), .int (nI (i49 + 8)), .int dd]) (rest := []) ⟨hx, hb, hml, hown, hts⟩ (c_X3_tryNeighbour l dC dI cI _ ql tl th u0 u1 u4 (nI i49) (nI (i49 + 8)) dd gl gh (vp_in_nI (by omega) (by omega)) (vp_in_nI (by omega) (by omega)) (by rw [nI_clamp (by omega), nI_clamp (by omega)]; exact (hna _ _ (by omega) (by omega)).1) (by rw [nI_clamp (by omega), nI_clamp (by omega)]; exact (hna _ _ (by omega) (by omega)).2)) (cwV 3 hts gX3_narrowTrial_X3_tryNeighbour rfl rfl rfl (by decide +kernel) ⟨Nat.le_of_ble_eq_true rfl, Nat.le_of_ble_eq_true rfl⟩) (pw_preV (va_recv hKc hPc (ci := 3) (q0 := 0) rfl rfl) hPc hKc hDc hN) rfl rfl hl.1 rfl (lv_room (Nat.le_of_ble_eq_true rfl)) dX3_narrowTrial_84 ⟨Nat.le_of_ble_eq_true rfl, Nat.le_of_ble_eq_true rfl⟩) hS (fun q _ h => hFc q h) hFc (fun u t H1 locs ht hvm hw hB hz1 hk1 hS => ?_)
                  obtain ⟨hP1, hK1, hD1⟩ := hB
                  rw [ht] at hP1
                  obtain ⟨hP, hD⟩ := va_join (wr := []) (w1 := [(ql, .inr (3, [u0, u1, .ref tl, .ref th, u4])), (tl, .inl (cI, 48, .inl gl)), (th, .inl (cI, 48, .inl gh))]) hP hD [0, 1, 2] [] rfl rfl (by decide) (by decide) hk1 hFc hP1 hD1
                  generalize H1 = H at hP hS ⊢
                  have hP : va_P (dC, dI) vwCl [(ql, .inr (3, [u0, u1, .ref tl, .ref th, u4])), (tl, .inl (cI, 48, .inl gl)), (th, .inl (cI, 48, .inl gh))] H := hP
                  have hD : va_D _ [(ql, .inr (3, [u0, u1, .ref tl, .ref th, u4])), (tl, .inl (cI, 48, .inl gl)), (th, .inl (cI, 48, .inl gh))] := hD
                  refine lv_iinc (v := dn i49) (lv' := [(2, .int (dn i49)), (0, .ref ql), (1, .int dd)]) hx hb dX3_narrowTrial_87 hl (k := 0) rfl (dn_pred i49) (by decide) rfl (fun ls hl => ?_)
                  refine lv_goto (tgt := 49) hx hb dX3_narrowTrial_90 (by decide) ?_
                  exact ih  _ _ ls (by omega)  (hP.sub [0, 1, 2] rfl) (hD.sub [0, 1, 2] (by decide) rfl) hS (lv_sub hl [0, 1, 2] rfl)
              · skip
                have hp : i49 % 8 < 7 := (Nat.lt_or_ge (i49 % 8) 7).elim id (fun q => absurd (show nI 7 ≤ nI (i49 % 8) from nI_le q (by omega)) c4)
                refine lv_aload_n hx hb dX3_narrowTrial_62 rfl (lv_at hl 1 rfl) ?_
                refine lv_iload_n hx hb dX3_narrowTrial_63 rfl (lv_at hl 0 rfl) ?_
                refine lv_iload_n hx hb dX3_narrowTrial_64 rfl (lv_at hl 0 rfl) ?_
                refine lv_iconst (v := 1) hx hb dX3_narrowTrial_65 (by decide) ?_
                refine lv_iadd hx hb dX3_narrowTrial_66 ?_
                refine lv_topi (fun v66 ev66 => ?_)
                have ev66 : v66 = nI (i49 + 1) := by rw [ev66]; exact nI_1 i49
                subst ev66
                refine lv_iload_n hx hb dX3_narrowTrial_67 rfl (lv_at hl 2 rfl) ?_
                have hPc := hP.sub (ws' := [(ql, .inr (3, [u0, u1, .ref tl, .ref th, u4])), (tl, .inl (cI, 48, .inl gl)), (th, .inl (cI, 48, .inl gh))]) [0, 1, 2] rfl
                have hDc := hD.sub (ws' := [(ql, .inr (3, [u0, u1, .ref tl, .ref th, u4])), (tl, .inl (cI, 48, .inl gl)), (th, .inl (cI, 48, .inl gh))]) [0, 1, 2] (by decide) rfl
                have hKc := hK.sub (tys' := [(cI, .int)]) [0] rfl
                have hFc := va_free (wc := [(ql, .inr (3, [u0, u1, .ref tl, .ref th, u4])), (tl, .inl (cI, 48, .inl gl)), (th, .inl (cI, 48, .inl gh))]) hD hS hA [0, 1, 2] rfl
                refine va_callv (va_runV (As := [.int (nI i49), .int (nI (i49 + 1)), .int dd]) (rest := []) ⟨hx, hb, hml, hown, hts⟩ (c_X3_tryNeighbour l dC dI cI _ ql tl th u0 u1 u4 (nI i49) (nI (i49 + 1)) dd gl gh (vp_in_nI (by omega) (by omega)) (vp_in_nI (by omega) (by omega)) (by rw [nI_clamp (by omega), nI_clamp (by omega)]; exact (hna _ _ (by omega) (by omega)).1) (by rw [nI_clamp (by omega), nI_clamp (by omega)]; exact (hna _ _ (by omega) (by omega)).2)) (cwV 3 hts gX3_narrowTrial_X3_tryNeighbour rfl rfl rfl (by decide +kernel) ⟨Nat.le_of_ble_eq_true rfl, Nat.le_of_ble_eq_true rfl⟩) (pw_preV (va_recv hKc hPc (ci := 3) (q0 := 0) rfl rfl) hPc hKc hDc hN) rfl rfl hl.1 rfl (lv_room (Nat.le_of_ble_eq_true rfl)) dX3_narrowTrial_68 ⟨Nat.le_of_ble_eq_true rfl, Nat.le_of_ble_eq_true rfl⟩) hS (fun q _ h => hFc q h) hFc (fun u t H1 locs ht hvm hw hB hz1 hk1 hS => ?_)
                obtain ⟨hP1, hK1, hD1⟩ := hB
                rw [ht] at hP1
                obtain ⟨hP, hD⟩ := va_join (wr := []) (w1 := [(ql, .inr (3, [u0, u1, .ref tl, .ref th, u4])), (tl, .inl (cI, 48, .inl gl)), (th, .inl (cI, 48, .inl gh))]) hP hD [0, 1, 2] [] rfl rfl (by decide) (by decide) hk1 hFc hP1 hD1
                generalize H1 = H at hP hS ⊢
                have hP : va_P (dC, dI) vwCl [(ql, .inr (3, [u0, u1, .ref tl, .ref th, u4])), (tl, .inl (cI, 48, .inl gl)), (th, .inl (cI, 48, .inl gh))] H := hP
                have hD : va_D _ [(ql, .inr (3, [u0, u1, .ref tl, .ref th, u4])), (tl, .inl (cI, 48, .inl gl)), (th, .inl (cI, 48, .inl gh))] := hD
                refine lv_iload_n hx hb dX3_narrowTrial_71 rfl (lv_at hl 0 rfl) ?_
                refine lv_bipush (v := 40) hx hb dX3_narrowTrial_72 (by decide) ?_
                refine lv_icmp_ge (tgt := 87) hx hb dX3_narrowTrial_74 (by decide) (fun c8 => ?_) (fun c8 => ?_)
                · skip
                  refine lv_iinc (v := dn i49) (lv' := [(2, .int (dn i49)), (0, .ref ql), (1, .int dd)]) hx hb dX3_narrowTrial_87 hl (k := 0) rfl (dn_pred i49) (by decide) rfl (fun ls hl => ?_)
                  refine lv_goto (tgt := 49) hx hb dX3_narrowTrial_90 (by decide) ?_
                  exact ih  _ _ ls (by omega)  (hP.sub [0, 1, 2] rfl) (hD.sub [0, 1, 2] (by decide) rfl) hS (lv_sub hl [0, 1, 2] rfl)
                · skip
                  have hp : i49 < 40 := (Nat.lt_or_ge i49 40).elim id (fun q => absurd (show nI 40 ≤ nI i49 from nI_le q (by omega)) c8)
                  refine lv_aload_n hx hb dX3_narrowTrial_77 rfl (lv_at hl 1 rfl) ?_
                  refine lv_iload_n hx hb dX3_narrowTrial_78 rfl (lv_at hl 0 rfl) ?_
                  refine lv_iload_n hx hb dX3_narrowTrial_79 rfl (lv_at hl 0 rfl) ?_
                  refine lv_bipush (v := 8) hx hb dX3_narrowTrial_80 (by decide) ?_
                  refine lv_iadd hx hb dX3_narrowTrial_82 ?_
                  refine lv_topi (fun v82 ev82 => ?_)
                  have ev82 : v82 = nI (i49 + 8) := by rw [ev82]; exact nI_add i49 8
                  subst ev82
                  refine lv_iload_n hx hb dX3_narrowTrial_83 rfl (lv_at hl 2 rfl) ?_
                  have hPc := hP.sub (ws' := [(ql, .inr (3, [u0, u1, .ref tl, .ref th, u4])), (tl, .inl (cI, 48, .inl gl)), (th, .inl (cI, 48, .inl gh))]) [0, 1, 2] rfl
                  have hDc := hD.sub (ws' := [(ql, .inr (3, [u0, u1, .ref tl, .ref th, u4])), (tl, .inl (cI, 48, .inl gl)), (th, .inl (cI, 48, .inl gh))]) [0, 1, 2] (by decide) rfl
                  have hKc := hK.sub (tys' := [(cI, .int)]) [0] rfl
                  have hFc := va_free (wc := [(ql, .inr (3, [u0, u1, .ref tl, .ref th, u4])), (tl, .inl (cI, 48, .inl gl)), (th, .inl (cI, 48, .inl gh))]) hD hS hA [0, 1, 2] rfl
                  refine va_callv (va_runV (As := [.int (nI i49), .int (nI (i49 + 8)), .int dd]) (rest := []) ⟨hx, hb, hml, hown, hts⟩ (c_X3_tryNeighbour l dC dI cI _ ql tl th u0 u1 u4 (nI i49) (nI (i49 + 8)) dd gl gh (vp_in_nI (by omega) (by omega)) (vp_in_nI (by omega) (by omega)) (by rw [nI_clamp (by omega), nI_clamp (by omega)]; exact (hna _ _ (by omega) (by omega)).1) (by rw [nI_clamp (by omega), nI_clamp (by omega)]; exact (hna _ _ (by omega) (by omega)).2)) (cwV 3 hts gX3_narrowTrial_X3_tryNeighbour rfl rfl rfl (by decide +kernel) ⟨Nat.le_of_ble_eq_true rfl, Nat.le_of_ble_eq_true rfl⟩) (pw_preV (va_recv hKc hPc (ci := 3) (q0 := 0) rfl rfl) hPc hKc hDc hN) rfl rfl hl.1 rfl (lv_room (Nat.le_of_ble_eq_true rfl)) dX3_narrowTrial_84 ⟨Nat.le_of_ble_eq_true rfl, Nat.le_of_ble_eq_true rfl⟩) hS (fun q _ h => hFc q h) hFc (fun u t H1 locs ht hvm hw hB hz1 hk1 hS => ?_)
                  obtain ⟨hP1, hK1, hD1⟩ := hB
                  rw [ht] at hP1
                  obtain ⟨hP, hD⟩ := va_join (wr := []) (w1 := [(ql, .inr (3, [u0, u1, .ref tl, .ref th, u4])), (tl, .inl (cI, 48, .inl gl)), (th, .inl (cI, 48, .inl gh))]) hP hD [0, 1, 2] [] rfl rfl (by decide) (by decide) hk1 hFc hP1 hD1
                  generalize H1 = H at hP hS ⊢
                  have hP : va_P (dC, dI) vwCl [(ql, .inr (3, [u0, u1, .ref tl, .ref th, u4])), (tl, .inl (cI, 48, .inl gl)), (th, .inl (cI, 48, .inl gh))] H := hP
                  have hD : va_D _ [(ql, .inr (3, [u0, u1, .ref tl, .ref th, u4])), (tl, .inl (cI, 48, .inl gl)), (th, .inl (cI, 48, .inl gh))] := hD
                  refine lv_iinc (v := dn i49) (lv' := [(2, .int (dn i49)), (0, .ref ql), (1, .int dd)]) hx hb dX3_narrowTrial_87 hl (k := 0) rfl (dn_pred i49) (by decide) rfl (fun ls hl => ?_)
                  refine lv_goto (tgt := 49) hx hb dX3_narrowTrial_90 (by decide) ?_
                  exact ih  _ _ ls (by omega)  (hP.sub [0, 1, 2] rfl) (hD.sub [0, 1, 2] (by decide) rfl) hS (lv_sub hl [0, 1, 2] rfl)
        exact loop49 48  _ _ ls (by omega)  hP hD hS (lv_sub hl [0, 1, 2] rfl)
      · skip
        have hlti2 : i2 < 48 := (Nat.lt_or_ge i2 48).elim id (fun q => absurd (show nI 48 ≤ nI i2 from nI_le q (by omega)) c1)
        refine lv_iload_n hx hb dX3_narrowTrial_8 rfl (lv_at hl 0 rfl) ?_
        refine lv_bipush (v := 8) hx hb dX3_narrowTrial_9 (by decide) ?_
        refine lv_irem hx hb dX3_narrowTrial_11 (by decide) ?_
        refine lv_topi (fun v11 ev11 => ?_)
        have ev11 : v11 = nI (i2 % 8) := by rw [ev11]; exact pk_rem (d := 8) (by omega) (by decide) (by decide)
        subst ev11
        refine lv_if_le (tgt := 24) hx hb dX3_narrowTrial_12 (by decide) (fun c10 => ?_) (fun c10 => ?_)
        · skip
          refine lv_iload_n hx hb dX3_narrowTrial_24 rfl (lv_at hl 0 rfl) ?_
          refine lv_bipush (v := 8) hx hb dX3_narrowTrial_25 (by decide) ?_
          refine lv_icmp_lt (tgt := 40) hx hb dX3_narrowTrial_27 (by decide) (fun c11 => ?_) (fun c11 => ?_)
          · skip
            refine lv_iinc (v := nI (i2 + 1)) (lv' := [(2, .int (nI (i2 + 1))), (0, .ref ql), (1, .int dd)]) hx hb dX3_narrowTrial_40 hl (k := 0) rfl (nI_1 i2) (by decide) rfl (fun ls hl => ?_)
            refine lv_goto (tgt := 2) hx hb dX3_narrowTrial_43 (by decide) ?_
            exact ihi2 (i2 + 1)  _ _ ls (by omega) (by omega)  (hP.sub [0, 1, 2] rfl) (hD.sub [0, 1, 2] (by decide) rfl) hS (lv_sub hl [0, 1, 2] rfl)
          · skip
            have hp : 8 ≤ i2 := (Nat.lt_or_ge i2 8).elim (fun q => absurd (show nI i2 < nI 8 from nI_lt q (by omega)) c11) id
            refine lv_aload_n hx hb dX3_narrowTrial_30 rfl (lv_at hl 1 rfl) ?_
            refine lv_iload_n hx hb dX3_narrowTrial_31 rfl (lv_at hl 0 rfl) ?_
            refine lv_iload_n hx hb dX3_narrowTrial_32 rfl (lv_at hl 0 rfl) ?_
            refine lv_bipush (v := 8) hx hb dX3_narrowTrial_33 (by decide) ?_
            refine lv_isub hx hb dX3_narrowTrial_35 ?_
            refine lv_topi (fun v35 ev35 => ?_)
            have ev35 : v35 = nI (i2 - 8) := by rw [ev35]; exact pk_sub (b := 8) (by omega)
            subst ev35
            refine lv_iload_n hx hb dX3_narrowTrial_36 rfl (lv_at hl 2 rfl) ?_
            have hPc := hP.sub (ws' := [(ql, .inr (3, [u0, u1, .ref tl, .ref th, u4])), (tl, .inl (cI, 48, .inl gl)), (th, .inl (cI, 48, .inl gh))]) [0, 1, 2] rfl
            have hDc := hD.sub (ws' := [(ql, .inr (3, [u0, u1, .ref tl, .ref th, u4])), (tl, .inl (cI, 48, .inl gl)), (th, .inl (cI, 48, .inl gh))]) [0, 1, 2] (by decide) rfl
            have hKc := hK.sub (tys' := [(cI, .int)]) [0] rfl
            have hFc := va_free (wc := [(ql, .inr (3, [u0, u1, .ref tl, .ref th, u4])), (tl, .inl (cI, 48, .inl gl)), (th, .inl (cI, 48, .inl gh))]) hD hS hA [0, 1, 2] rfl
            refine va_callv (va_runV (As := [.int (nI i2), .int (nI (i2 - 8)), .int dd]) (rest := []) ⟨hx, hb, hml, hown, hts⟩ (c_X3_tryNeighbour l dC dI cI _ ql tl th u0 u1 u4 (nI i2) (nI (i2 - 8)) dd gl gh (vp_in_nI (by omega) (by omega)) (vp_in_nI (by omega) (by omega)) (by rw [nI_clamp (by omega), nI_clamp (by omega)]; exact (hna _ _ (by omega) (by omega)).1) (by rw [nI_clamp (by omega), nI_clamp (by omega)]; exact (hna _ _ (by omega) (by omega)).2)) (cwV 3 hts gX3_narrowTrial_X3_tryNeighbour rfl rfl rfl (by decide +kernel) ⟨Nat.le_of_ble_eq_true rfl, Nat.le_of_ble_eq_true rfl⟩) (pw_preV (va_recv hKc hPc (ci := 3) (q0 := 0) rfl rfl) hPc hKc hDc hN) rfl rfl hl.1 rfl (lv_room (Nat.le_of_ble_eq_true rfl)) dX3_narrowTrial_37 ⟨Nat.le_of_ble_eq_true rfl, Nat.le_of_ble_eq_true rfl⟩) hS (fun q _ h => hFc q h) hFc (fun u t H1 locs ht hvm hw hB hz1 hk1 hS => ?_)
            obtain ⟨hP1, hK1, hD1⟩ := hB
            rw [ht] at hP1
            obtain ⟨hP, hD⟩ := va_join (wr := []) (w1 := [(ql, .inr (3, [u0, u1, .ref tl, .ref th, u4])), (tl, .inl (cI, 48, .inl gl)), (th, .inl (cI, 48, .inl gh))]) hP hD [0, 1, 2] [] rfl rfl (by decide) (by decide) hk1 hFc hP1 hD1
            generalize H1 = H at hP hS ⊢
            have hP : va_P (dC, dI) vwCl [(ql, .inr (3, [u0, u1, .ref tl, .ref th, u4])), (tl, .inl (cI, 48, .inl gl)), (th, .inl (cI, 48, .inl gh))] H := hP
            have hD : va_D _ [(ql, .inr (3, [u0, u1, .ref tl, .ref th, u4])), (tl, .inl (cI, 48, .inl gl)), (th, .inl (cI, 48, .inl gh))] := hD
            refine lv_iinc (v := nI (i2 + 1)) (lv' := [(2, .int (nI (i2 + 1))), (0, .ref ql), (1, .int dd)]) hx hb dX3_narrowTrial_40 hl (k := 0) rfl (nI_1 i2) (by decide) rfl (fun ls hl => ?_)
            refine lv_goto (tgt := 2) hx hb dX3_narrowTrial_43 (by decide) ?_
            exact ihi2 (i2 + 1)  _ _ ls (by omega) (by omega)  (hP.sub [0, 1, 2] rfl) (hD.sub [0, 1, 2] (by decide) rfl) hS (lv_sub hl [0, 1, 2] rfl)
        · skip
          have hp : 0 < i2 := (Nat.eq_zero_or_pos i2).elim (fun q => by subst q; exact absurd (by decide) c10) id
          refine lv_aload_n hx hb dX3_narrowTrial_15 rfl (lv_at hl 1 rfl) ?_
          refine lv_iload_n hx hb dX3_narrowTrial_16 rfl (lv_at hl 0 rfl) ?_
          refine lv_iload_n hx hb dX3_narrowTrial_17 rfl (lv_at hl 0 rfl) ?_
          refine lv_iconst (v := 1) hx hb dX3_narrowTrial_18 (by decide) ?_
          refine lv_isub hx hb dX3_narrowTrial_19 ?_
          refine lv_topi (fun v19 ev19 => ?_)
          have ev19 : v19 = nI (i2 - 1) := by rw [ev19]; exact pk_sub (b := 1) (by omega)
          subst ev19
          refine lv_iload_n hx hb dX3_narrowTrial_20 rfl (lv_at hl 2 rfl) ?_
          have hPc := hP.sub (ws' := [(ql, .inr (3, [u0, u1, .ref tl, .ref th, u4])), (tl, .inl (cI, 48, .inl gl)), (th, .inl (cI, 48, .inl gh))]) [0, 1, 2] rfl
          have hDc := hD.sub (ws' := [(ql, .inr (3, [u0, u1, .ref tl, .ref th, u4])), (tl, .inl (cI, 48, .inl gl)), (th, .inl (cI, 48, .inl gh))]) [0, 1, 2] (by decide) rfl
          have hKc := hK.sub (tys' := [(cI, .int)]) [0] rfl
          have hFc := va_free (wc := [(ql, .inr (3, [u0, u1, .ref tl, .ref th, u4])), (tl, .inl (cI, 48, .inl gl)), (th, .inl (cI, 48, .inl gh))]) hD hS hA [0, 1, 2] rfl
          refine va_callv (va_runV (As := [.int (nI i2), .int (nI (i2 - 1)), .int dd]) (rest := []) ⟨hx, hb, hml, hown, hts⟩ (c_X3_tryNeighbour l dC dI cI _ ql tl th u0 u1 u4 (nI i2) (nI (i2 - 1)) dd gl gh (vp_in_nI (by omega) (by omega)) (vp_in_nI (by omega) (by omega)) (by rw [nI_clamp (by omega), nI_clamp (by omega)]; exact (hna _ _ (by omega) (by omega)).1) (by rw [nI_clamp (by omega), nI_clamp (by omega)]; exact (hna _ _ (by omega) (by omega)).2)) (cwV 3 hts gX3_narrowTrial_X3_tryNeighbour rfl rfl rfl (by decide +kernel) ⟨Nat.le_of_ble_eq_true rfl, Nat.le_of_ble_eq_true rfl⟩) (pw_preV (va_recv hKc hPc (ci := 3) (q0 := 0) rfl rfl) hPc hKc hDc hN) rfl rfl hl.1 rfl (lv_room (Nat.le_of_ble_eq_true rfl)) dX3_narrowTrial_21 ⟨Nat.le_of_ble_eq_true rfl, Nat.le_of_ble_eq_true rfl⟩) hS (fun q _ h => hFc q h) hFc (fun u t H1 locs ht hvm hw hB hz1 hk1 hS => ?_)
          obtain ⟨hP1, hK1, hD1⟩ := hB
          rw [ht] at hP1
          obtain ⟨hP, hD⟩ := va_join (wr := []) (w1 := [(ql, .inr (3, [u0, u1, .ref tl, .ref th, u4])), (tl, .inl (cI, 48, .inl gl)), (th, .inl (cI, 48, .inl gh))]) hP hD [0, 1, 2] [] rfl rfl (by decide) (by decide) hk1 hFc hP1 hD1
          generalize H1 = H at hP hS ⊢
          have hP : va_P (dC, dI) vwCl [(ql, .inr (3, [u0, u1, .ref tl, .ref th, u4])), (tl, .inl (cI, 48, .inl gl)), (th, .inl (cI, 48, .inl gh))] H := hP
          have hD : va_D _ [(ql, .inr (3, [u0, u1, .ref tl, .ref th, u4])), (tl, .inl (cI, 48, .inl gl)), (th, .inl (cI, 48, .inl gh))] := hD
          refine lv_iload_n hx hb dX3_narrowTrial_24 rfl (lv_at hl 0 rfl) ?_
          refine lv_bipush (v := 8) hx hb dX3_narrowTrial_25 (by decide) ?_
          refine lv_icmp_lt (tgt := 40) hx hb dX3_narrowTrial_27 (by decide) (fun c14 => ?_) (fun c14 => ?_)
          · skip
            refine lv_iinc (v := nI (i2 + 1)) (lv' := [(2, .int (nI (i2 + 1))), (0, .ref ql), (1, .int dd)]) hx hb dX3_narrowTrial_40 hl (k := 0) rfl (nI_1 i2) (by decide) rfl (fun ls hl => ?_)
            refine lv_goto (tgt := 2) hx hb dX3_narrowTrial_43 (by decide) ?_
            exact ihi2 (i2 + 1)  _ _ ls (by omega) (by omega)  (hP.sub [0, 1, 2] rfl) (hD.sub [0, 1, 2] (by decide) rfl) hS (lv_sub hl [0, 1, 2] rfl)
          · skip
            have hp : 8 ≤ i2 := (Nat.lt_or_ge i2 8).elim (fun q => absurd (show nI i2 < nI 8 from nI_lt q (by omega)) c14) id
            refine lv_aload_n hx hb dX3_narrowTrial_30 rfl (lv_at hl 1 rfl) ?_
            refine lv_iload_n hx hb dX3_narrowTrial_31 rfl (lv_at hl 0 rfl) ?_
            refine lv_iload_n hx hb dX3_narrowTrial_32 rfl (lv_at hl 0 rfl) ?_
            refine lv_bipush (v := 8) hx hb dX3_narrowTrial_33 (by decide) ?_
            refine lv_isub hx hb dX3_narrowTrial_35 ?_
            refine lv_topi (fun v35 ev35 => ?_)
            have ev35 : v35 = nI (i2 - 8) := by rw [ev35]; exact pk_sub (b := 8) (by omega)
            subst ev35
            refine lv_iload_n hx hb dX3_narrowTrial_36 rfl (lv_at hl 2 rfl) ?_
            have hPc := hP.sub (ws' := [(ql, .inr (3, [u0, u1, .ref tl, .ref th, u4])), (tl, .inl (cI, 48, .inl gl)), (th, .inl (cI, 48, .inl gh))]) [0, 1, 2] rfl
            have hDc := hD.sub (ws' := [(ql, .inr (3, [u0, u1, .ref tl, .ref th, u4])), (tl, .inl (cI, 48, .inl gl)), (th, .inl (cI, 48, .inl gh))]) [0, 1, 2] (by decide) rfl
            have hKc := hK.sub (tys' := [(cI, .int)]) [0] rfl
            have hFc := va_free (wc := [(ql, .inr (3, [u0, u1, .ref tl, .ref th, u4])), (tl, .inl (cI, 48, .inl gl)), (th, .inl (cI, 48, .inl gh))]) hD hS hA [0, 1, 2] rfl
            refine va_callv (va_runV (As := [.int (nI i2), .int (nI (i2 - 8)), .int dd]) (rest := []) ⟨hx, hb, hml, hown, hts⟩ (c_X3_tryNeighbour l dC dI cI _ ql tl th u0 u1 u4 (nI i2) (nI (i2 - 8)) dd gl gh (vp_in_nI (by omega) (by omega)) (vp_in_nI (by omega) (by omega)) (by rw [nI_clamp (by omega), nI_clamp (by omega)]; exact (hna _ _ (by omega) (by omega)).1) (by rw [nI_clamp (by omega), nI_clamp (by omega)]; exact (hna _ _ (by omega) (by omega)).2)) (cwV 3 hts gX3_narrowTrial_X3_tryNeighbour rfl rfl rfl (by decide +kernel) ⟨Nat.le_of_ble_eq_true rfl, Nat.le_of_ble_eq_true rfl⟩) (pw_preV (va_recv hKc hPc (ci := 3) (q0 := 0) rfl rfl) hPc hKc hDc hN) rfl rfl hl.1 rfl (lv_room (Nat.le_of_ble_eq_true rfl)) dX3_narrowTrial_37 ⟨Nat.le_of_ble_eq_true rfl, Nat.le_of_ble_eq_true rfl⟩) hS (fun q _ h => hFc q h) hFc (fun u t H1 locs ht hvm hw hB hz1 hk1 hS => ?_)
            obtain ⟨hP1, hK1, hD1⟩ := hB
            rw [ht] at hP1
            obtain ⟨hP, hD⟩ := va_join (wr := []) (w1 := [(ql, .inr (3, [u0, u1, .ref tl, .ref th, u4])), (tl, .inl (cI, 48, .inl gl)), (th, .inl (cI, 48, .inl gh))]) hP hD [0, 1, 2] [] rfl rfl (by decide) (by decide) hk1 hFc hP1 hD1
            generalize H1 = H at hP hS ⊢
            have hP : va_P (dC, dI) vwCl [(ql, .inr (3, [u0, u1, .ref tl, .ref th, u4])), (tl, .inl (cI, 48, .inl gl)), (th, .inl (cI, 48, .inl gh))] H := hP
            have hD : va_D _ [(ql, .inr (3, [u0, u1, .ref tl, .ref th, u4])), (tl, .inl (cI, 48, .inl gl)), (th, .inl (cI, 48, .inl gh))] := hD
            refine lv_iinc (v := nI (i2 + 1)) (lv' := [(2, .int (nI (i2 + 1))), (0, .ref ql), (1, .int dd)]) hx hb dX3_narrowTrial_40 hl (k := 0) rfl (nI_1 i2) (by decide) rfl (fun ls hl => ?_)
            refine lv_goto (tgt := 2) hx hb dX3_narrowTrial_43 (by decide) ?_
            exact ihi2 (i2 + 1)  _ _ ls (by omega) (by omega)  (hP.sub [0, 1, 2] rfl) (hD.sub [0, 1, 2] (by decide) rfl) hS (lv_sub hl [0, 1, 2] rfl)
  exact loop2 (48 + 1 - 0) 0  _ _ ls (by omega) (by omega)  hP hD hS (lv_sub hl [0, 1, 2] rfl)
set_option maxHeartbeats 4000000 in
set_option maxRecDepth 100000 in
theorem c_X3_endTrial (l : Launch) (dC : Nat → ClassId) (dI : Nat → Nat → Nat) (cI : ClassId) (sz : Nat) (ql : Nat) (lw : Nat) (hg : Nat) (tl : Nat) (th : Nat) (law : Int32) (dd : Int32) (fl : Nat → Int32) (fh : Nat → Int32) (gl : Nat → Int32) (gh : Nat → Int32) (hna : ∀ i j : Nat, i < 48 → j < 48 → ¬ gl i < gl j - dd ∧ ¬ gh j + dd < gh i) (hok : ∀ j : Nat, j < 48 → ¬ gh j < gl j) : Met l yX3_endTrial wsX3_endTrial ({ frames := 4, cells := 0, slots := 0, locals := 120 }) (pw (dC, dI) [(cI, .int)] [(ql, .inr (3, [.ref lw, .ref hg, .ref tl, .ref th, .int law])), (lw, .inl (cI, 48, .inl fl)), (hg, .inl (cI, 48, .inl fh)), (tl, .inl (cI, 48, .inl gl)), (th, .inl (cI, 48, .inl gh))] sz [.ref ql, .int dd]) (va_Qi (fun r (_ : Unit) => r = nI (fa_cnt (chg fl fh gl gh) 48)) (fun _ _ => True) (va_A [(ql, .inr (3, [.ref lw, .ref hg, .ref tl, .ref th, .int law])), (lw, .inl (cI, 48, .inl fl)), (hg, .inl (cI, 48, .inl fh)), (tl, .inl (cI, 48, .inl gl)), (th, .inl (cI, 48, .inl gh))] sz)) 0 0 (va_A [(ql, .inr (3, [.ref lw, .ref hg, .ref tl, .ref th, .int law])), (lw, .inl (cI, 48, .inl fl)), (hg, .inl (cI, 48, .inl fh)), (tl, .inl (cI, 48, .inl gl)), (th, .inl (cI, 48, .inl gh))] sz) := by
  refine pw_met (cc := cX3_endTrial) (maxL := 4) (ret := (some .int)) (by decide) rfl (Nat.le_of_ble_eq_true rfl) ?_
  intro p e s m below meth c0 hx hb hr hml hown hlocks hnm hts hP hK hD hN hsz hA hS ls hl
  subst hsz
  have hl : lv_has ls 4 [(0, .ref ql), (1, .int dd)] := hl
  have hiX3 : ∀ w ∈ wsX30, w ∈ wsX3_endTrial := by decide +kernel
  obtain ⟨Q, hQ⟩ : ∃ Q : State → Prop, Q = MQ below (va_Qi (fun r (_ : Unit) => r = nI (fa_cnt (chg fl fh gl gh) 48)) (fun _ _ => True) (va_A [(ql, .inr (3, [.ref lw, .ref hg, .ref tl, .ref th, .int law])), (lw, .inl (cI, 48, .inl fl)), (hg, .inl (cI, 48, .inl fh)), (tl, .inl (cI, 48, .inl gl)), (th, .inl (cI, 48, .inl gh))] s.heap.size)) ([.ref ql, .int dd] : List Value).toArray s 0 0 (va_A [(ql, .inr (3, [.ref lw, .ref hg, .ref tl, .ref th, .int law])), (lw, .inl (cI, 48, .inl fl)), (hg, .inl (cI, 48, .inl fh)), (tl, .inl (cI, 48, .inl gl)), (th, .inl (cI, 48, .inl gh))] s.heap.size) := ⟨_, rfl⟩
  rw [← hQ]
  refine lv_aload_n hx hb dX3_endTrial_0 rfl (lv_at hl 0 rfl) ?_
  refine lv_iload_n hx hb dX3_endTrial_1 rfl (lv_at hl 1 rfl) ?_
  have hPc := hP.sub (ws' := [(ql, .inr (3, [.ref lw, .ref hg, .ref tl, .ref th, .int law])), (tl, .inl (cI, 48, .inl gl)), (th, .inl (cI, 48, .inl gh))]) [0, 3, 4] rfl
  have hDc := hD.sub (ws' := [(ql, .inr (3, [.ref lw, .ref hg, .ref tl, .ref th, .int law])), (tl, .inl (cI, 48, .inl gl)), (th, .inl (cI, 48, .inl gh))]) [0, 3, 4] (by decide) rfl
  have hKc := hK.sub (tys' := [(cI, .int)]) [0] rfl
  have hFc := va_free (wc := [(ql, .inr (3, [.ref lw, .ref hg, .ref tl, .ref th, .int law])), (tl, .inl (cI, 48, .inl gl)), (th, .inl (cI, 48, .inl gh))]) hD hS hA [0, 3, 4] rfl
  refine va_callv (va_runV (As := [.int dd]) (rest := []) ⟨hx, hb, hml, hown, hts⟩ (c_X3_narrowTrial l dC dI cI _ ql tl th (.ref lw) (.ref hg) (.int law) dd gl gh hna) (cwV 1 hts gX3_endTrial_X3_narrowTrial rfl rfl rfl (by decide +kernel) ⟨Nat.le_of_ble_eq_true rfl, Nat.le_of_ble_eq_true rfl⟩) (pw_preV (va_recv hKc hPc (ci := 3) (q0 := 0) rfl rfl) hPc hKc hDc hN) rfl rfl hl.1 rfl (lv_room (Nat.le_of_ble_eq_true rfl)) dX3_endTrial_2 ⟨Nat.le_of_ble_eq_true rfl, Nat.le_of_ble_eq_true rfl⟩) hS (fun q _ h => hFc q h) hFc (fun u t H1 locs ht hvm hw hB hz1 hk1 hS => ?_)
  obtain ⟨hP1, hK1, hD1⟩ := hB
  rw [ht] at hP1
  obtain ⟨hP, hD⟩ := va_join (wr := [(lw, .inl (cI, 48, .inl fl)), (hg, .inl (cI, 48, .inl fh))]) (w1 := [(ql, .inr (3, [.ref lw, .ref hg, .ref tl, .ref th, .int law])), (tl, .inl (cI, 48, .inl gl)), (th, .inl (cI, 48, .inl gh))]) hP hD [0, 3, 4] [1, 2] rfl rfl (by decide) (by decide) hk1 hFc hP1 hD1
  generalize H1 = H at hP hS ⊢
  have hP : va_P (dC, dI) vwCl [(lw, .inl (cI, 48, .inl fl)), (hg, .inl (cI, 48, .inl fh)), (ql, .inr (3, [.ref lw, .ref hg, .ref tl, .ref th, .int law])), (tl, .inl (cI, 48, .inl gl)), (th, .inl (cI, 48, .inl gh))] H := hP
  have hD : va_D _ [(lw, .inl (cI, 48, .inl fl)), (hg, .inl (cI, 48, .inl fh)), (ql, .inr (3, [.ref lw, .ref hg, .ref tl, .ref th, .int law])), (tl, .inl (cI, 48, .inl gl)), (th, .inl (cI, 48, .inl gh))] := hD
  refine lv_iconst (v := 0) hx hb dX3_endTrial_5 (by decide) ?_
  refine lv_istore_n (lv' := [(2, .int 0), (0, .ref ql), (1, .int dd)]) hx hb dX3_endTrial_6 rfl hl (by decide) rfl (fun ls hl => ?_)
  refine lv_iconst (v := 0) hx hb dX3_endTrial_7 (by decide) ?_
  refine lv_istore_n (lv' := [(3, .int 0), (2, .int 0), (0, .ref ql), (1, .int dd)]) hx hb dX3_endTrial_8 rfl hl (by decide) rfl (fun ls hl => ?_)
  have loop9 : ∀ (ni9 i9 : Nat) (H : Heap) (locs : List Loc) (ls : Array Slot), i9 ≤ 48 → 48 + 1 ≤ i9 + ni9 → va_P (dC, dI) vwCl [(lw, .inl (cI, 48, .inl fl)), (hg, .inl (cI, 48, .inl fh)), (ql, .inr (3, [.ref lw, .ref hg, .ref tl, .ref th, .int law])), (tl, .inl (cI, 48, .inl gl)), (th, .inl (cI, 48, .inl gh))] H → va_D (va_A [(ql, .inr (3, [.ref lw, .ref hg, .ref tl, .ref th, .int law])), (lw, .inl (cI, 48, .inl fl)), (hg, .inl (cI, 48, .inl fh)), (tl, .inl (cI, 48, .inl gl)), (th, .inl (cI, 48, .inl gh))] s.heap.size) [(lw, .inl (cI, 48, .inl fl)), (hg, .inl (cI, 48, .inl fh)), (ql, .inr (3, [.ref lw, .ref hg, .ref tl, .ref th, .int law])), (tl, .inl (cI, 48, .inl gl)), (th, .inl (cI, 48, .inl gh))] → va_S (va_A [(ql, .inr (3, [.ref lw, .ref hg, .ref tl, .ref th, .int law])), (lw, .inl (cI, 48, .inl fl)), (hg, .inl (cI, 48, .inl fh)), (tl, .inl (cI, 48, .inl gl)), (th, .inl (cI, 48, .inl gh))] s.heap.size) s.heap H locs → lv_has ls 4 [(3, .int (nI i9)), (2, .int (nI (fa_cnt (chg fl fh gl gh) i9))), (0, .ref ql), (1, .int dd)] → W p l e ({ frames := 4, cells := 0, slots := 0, locals := 120 } : Room) s m ([.ref ql, .int dd] : List Value).toArray below meth c0 H locs 0 0 Q (F0 m 9 ls []) := by
    intro ni9
    induction ni9 with
    | zero =>
      intro i9  H locs ls h1 h2
      exact absurd h2 (by omega)
    | succ ni9 ihi9 =>
      intro i9  H locs ls hlei9 hni9  hP hD hS hl
      refine lv_iload_n hx hb dX3_endTrial_9 rfl (lv_at hl 0 rfl) ?_
      refine lv_bipush (v := 48) hx hb dX3_endTrial_10 (by decide) ?_
      refine lv_icmp_ge (tgt := 72) hx hb dX3_endTrial_12 (by decide) (fun c2 => ?_) (fun c2 => ?_)
      · skip
        have hei9 : i9 = 48 := (Nat.lt_or_ge i9 48).elim (fun q => absurd c2 (show ¬ nI 48 ≤ nI i9 from nI_ge q (by omega))) (fun q => by omega)
        refine lv_aload_n hx hb dX3_endTrial_72 rfl (lv_at hl 2 rfl) ?_
        refine va_get (D := (dC, dI)) (ci := 3) (v := .ref tl) (C := RX3) (T := TX3) (N := 5) hx hb hts hiX3 hown hK hP 2 rfl rfl 2 (by decide) (hts (.fieldLink RX3 18 "TributePitches$Lode" "triedLows" "[I") (by decide +kernel)) (fun _ h9 => h9) rfl dX3_endTrial_73 ?_
        refine lv_iconst (v := 0) hx hb dX3_endTrial_76 (by decide) ?_
        refine lv_aload_n hx hb dX3_endTrial_77 rfl (lv_at hl 2 rfl) ?_
        refine va_get (D := (dC, dI)) (ci := 3) (v := .ref lw) (C := RX3) (T := TX3) (N := 5) hx hb hts hiX3 hown hK hP 2 rfl rfl 0 (by decide) (hts (.fieldLink RX3 11 "TributePitches$Lode" "lows" "[I") (by decide +kernel)) (fun _ h9 => h9) rfl dX3_endTrial_78 ?_
        refine lv_iconst (v := 0) hx hb dX3_endTrial_81 (by decide) ?_
        refine lv_bipush (v := 48) hx hb dX3_endTrial_82 (by decide) ?_
        refine va_copyi hx hb (hml.trans hl.1.symm) hown (hts (.methodLink RX3 38 arraycopyName) (by decide +kernel)) (hts (.native arraycopyName) (by decide +kernel)) (hts (.static arraycopyName) (by decide +kernel)) (hts (.initialized "java/lang/System") (by decide +kernel)) hK hP hD hS 3 0 0 0 rfl rfl rfl rfl rfl (by decide) (by decide) (by decide) (by decide) (by decide) (fun _ _ => rfl) (Nat.le_of_ble_eq_true rfl) (Nat.le_of_ble_eq_true rfl) dX3_endTrial_84 (fun H locs hP hD hS => ?_)
        have hP : va_P (dC, dI) vwCl [(lw, .inl (cI, 48, .inl (va_cpy gl fl 0 0 48))), (hg, .inl (cI, 48, .inl fh)), (ql, .inr (3, [.ref lw, .ref hg, .ref tl, .ref th, .int law])), (tl, .inl (cI, 48, .inl gl)), (th, .inl (cI, 48, .inl gh))] H := hP
        have hD : va_D _ [(lw, .inl (cI, 48, .inl (va_cpy gl fl 0 0 48))), (hg, .inl (cI, 48, .inl fh)), (ql, .inr (3, [.ref lw, .ref hg, .ref tl, .ref th, .int law])), (tl, .inl (cI, 48, .inl gl)), (th, .inl (cI, 48, .inl gh))] := hD
        have hP := va_P_cg hP 0 gl rfl (cpy_all _ _)
        have hD := va_D_cg hD 0 gl rfl
        have hP : va_P (dC, dI) vwCl [(lw, .inl (cI, 48, .inl gl)), (hg, .inl (cI, 48, .inl fh)), (ql, .inr (3, [.ref lw, .ref hg, .ref tl, .ref th, .int law])), (tl, .inl (cI, 48, .inl gl)), (th, .inl (cI, 48, .inl gh))] H := hP
        have hD : va_D _ [(lw, .inl (cI, 48, .inl gl)), (hg, .inl (cI, 48, .inl fh)), (ql, .inr (3, [.ref lw, .ref hg, .ref tl, .ref th, .int law])), (tl, .inl (cI, 48, .inl gl)), (th, .inl (cI, 48, .inl gh))] := hD
        refine lv_aload_n hx hb dX3_endTrial_87 rfl (lv_at hl 2 rfl) ?_
        refine va_get (D := (dC, dI)) (ci := 3) (v := .ref th) (C := RX3) (T := TX3) (N := 5) hx hb hts hiX3 hown hK hP 2 rfl rfl 3 (by decide) (hts (.fieldLink RX3 21 "TributePitches$Lode" "triedHighs" "[I") (by decide +kernel)) (fun _ h9 => h9) rfl dX3_endTrial_88 ?_
        refine lv_iconst (v := 0) hx hb dX3_endTrial_91 (by decide) ?_
        refine lv_aload_n hx hb dX3_endTrial_92 rfl (lv_at hl 2 rfl) ?_
        refine va_get (D := (dC, dI)) (ci := 3) (v := .ref hg) (C := RX3) (T := TX3) (N := 5) hx hb hts hiX3 hown hK hP 2 rfl rfl 1 (by decide) (hts (.fieldLink RX3 15 "TributePitches$Lode" "highs" "[I") (by decide +kernel)) (fun _ h9 => h9) rfl dX3_endTrial_93 ?_
        refine lv_iconst (v := 0) hx hb dX3_endTrial_96 (by decide) ?_
        refine lv_bipush (v := 48) hx hb dX3_endTrial_97 (by decide) ?_
        refine va_copyi hx hb (hml.trans hl.1.symm) hown (hts (.methodLink RX3 38 arraycopyName) (by decide +kernel)) (hts (.native arraycopyName) (by decide +kernel)) (hts (.static arraycopyName) (by decide +kernel)) (hts (.initialized "java/lang/System") (by decide +kernel)) hK hP hD hS 4 1 0 0 rfl rfl rfl rfl rfl (by decide) (by decide) (by decide) (by decide) (by decide) (fun _ _ => rfl) (Nat.le_of_ble_eq_true rfl) (Nat.le_of_ble_eq_true rfl) dX3_endTrial_99 (fun H locs hP hD hS => ?_)
        have hP : va_P (dC, dI) vwCl [(lw, .inl (cI, 48, .inl gl)), (hg, .inl (cI, 48, .inl (va_cpy gh fh 0 0 48))), (ql, .inr (3, [.ref lw, .ref hg, .ref tl, .ref th, .int law])), (tl, .inl (cI, 48, .inl gl)), (th, .inl (cI, 48, .inl gh))] H := hP
        have hD : va_D _ [(lw, .inl (cI, 48, .inl gl)), (hg, .inl (cI, 48, .inl (va_cpy gh fh 0 0 48))), (ql, .inr (3, [.ref lw, .ref hg, .ref tl, .ref th, .int law])), (tl, .inl (cI, 48, .inl gl)), (th, .inl (cI, 48, .inl gh))] := hD
        have hP := va_P_cg hP 1 gh rfl (cpy_all _ _)
        have hD := va_D_cg hD 1 gh rfl
        have hP : va_P (dC, dI) vwCl [(lw, .inl (cI, 48, .inl gl)), (hg, .inl (cI, 48, .inl gh)), (ql, .inr (3, [.ref lw, .ref hg, .ref tl, .ref th, .int law])), (tl, .inl (cI, 48, .inl gl)), (th, .inl (cI, 48, .inl gh))] H := hP
        have hD : va_D _ [(lw, .inl (cI, 48, .inl gl)), (hg, .inl (cI, 48, .inl gh)), (ql, .inr (3, [.ref lw, .ref hg, .ref tl, .ref th, .int law])), (tl, .inl (cI, 48, .inl gl)), (th, .inl (cI, 48, .inl gh))] := hD
        refine lv_aload_n hx hb dX3_endTrial_102 rfl (lv_at hl 2 rfl) ?_
        refine lv_iload_n hx hb dX3_endTrial_103 rfl (lv_at hl 3 rfl) ?_
        refine va_put (D := (dC, dI)) (ci := 3) (v := .int dd) (ty := .int) (C := RX3) (T := TX3) (N := 5) hx hb hts hiX3 tyX3 tyX3_ok nmX3 hown hK hP hD hS 2 rfl rfl 4 (by decide) (hts (.fieldLink RX3 24 "TributePitches$Lode" "law" "I") (by decide +kernel)) (fun _ h9 => h9) rfl (by decide +kernel) rfl rfl (Nat.le_of_ble_eq_true rfl) dX3_endTrial_104 (fun H locs hP hD hS => ?_)
        have hP : va_P (dC, dI) vwCl [(lw, .inl (cI, 48, .inl gl)), (hg, .inl (cI, 48, .inl gh)), (ql, .inr (3, [.ref lw, .ref hg, .ref tl, .ref th, .int dd])), (tl, .inl (cI, 48, .inl gl)), (th, .inl (cI, 48, .inl gh))] H := hP
        have hD : va_D _ [(lw, .inl (cI, 48, .inl gl)), (hg, .inl (cI, 48, .inl gh)), (ql, .inr (3, [.ref lw, .ref hg, .ref tl, .ref th, .int dd])), (tl, .inl (cI, 48, .inl gl)), (th, .inl (cI, 48, .inl gh))] := hD
        refine lv_iload_n hx hb dX3_endTrial_107 rfl (lv_at hl 1 rfl) ?_
        rw [hQ]
        exact W.iret (v := nI (fa_cnt (chg fl fh gl gh) i9)) hx hb hr (fun t ht hW => ⟨⟨nI (fa_cnt (chg fl fh gl gh) i9), (), rfl, (by rw [hei9]), trivial⟩, hS.F ht⟩) hS.2.2 dX3_endTrial_108
      · skip
        have hlti9 : i9 < 48 := (Nat.lt_or_ge i9 48).elim id (fun q => absurd (show nI 48 ≤ nI i9 from nI_le q (by omega)) c2)
        refine lv_aload_n hx hb dX3_endTrial_15 rfl (lv_at hl 2 rfl) ?_
        refine va_get (D := (dC, dI)) (ci := 3) (v := .ref tl) (C := RX3) (T := TX3) (N := 5) hx hb hts hiX3 hown hK hP 2 rfl rfl 2 (by decide) (hts (.fieldLink RX3 18 "TributePitches$Lode" "triedLows" "[I") (by decide +kernel)) (fun _ h9 => h9) rfl dX3_endTrial_16 ?_
        refine lv_iload_n hx hb dX3_endTrial_19 rfl (lv_at hl 0 rfl) ?_
        refine va_iald hx hb hK hP 3 0 rfl rfl (vp_in_nI (by omega) (by omega)) dX3_endTrial_20 ?_
        refine lv_topi (fun v3 ev3 => ?_)
        have ev3 : v3 = gl i9 := by rw [ev3]; rw [nI_clamp (by omega)]
        subst ev3
        refine lv_aload_n hx hb dX3_endTrial_21 rfl (lv_at hl 2 rfl) ?_
        refine va_get (D := (dC, dI)) (ci := 3) (v := .ref th) (C := RX3) (T := TX3) (N := 5) hx hb hts hiX3 hown hK hP 2 rfl rfl 3 (by decide) (hts (.fieldLink RX3 21 "TributePitches$Lode" "triedHighs" "[I") (by decide +kernel)) (fun _ h9 => h9) rfl dX3_endTrial_22 ?_
        refine lv_iload_n hx hb dX3_endTrial_25 rfl (lv_at hl 0 rfl) ?_
        refine va_iald hx hb hK hP 4 0 rfl rfl (vp_in_nI (by omega) (by omega)) dX3_endTrial_26 ?_
        refine lv_topi (fun v4 ev4 => ?_)
        have ev4 : v4 = gh i9 := by rw [ev4]; rw [nI_clamp (by omega)]
        subst ev4
        refine lv_icmp_le (tgt := 33) hx hb dX3_endTrial_27 (by decide) (fun c5 => ?_) (fun c5 => ?_)
        · skip
          refine lv_aload_n hx hb dX3_endTrial_33 rfl (lv_at hl 2 rfl) ?_
          refine va_get (D := (dC, dI)) (ci := 3) (v := .ref tl) (C := RX3) (T := TX3) (N := 5) hx hb hts hiX3 hown hK hP 2 rfl rfl 2 (by decide) (hts (.fieldLink RX3 18 "TributePitches$Lode" "triedLows" "[I") (by decide +kernel)) (fun _ h9 => h9) rfl dX3_endTrial_34 ?_
          refine lv_iload_n hx hb dX3_endTrial_37 rfl (lv_at hl 0 rfl) ?_
          refine va_iald hx hb hK hP 3 0 rfl rfl (vp_in_nI (by omega) (by omega)) dX3_endTrial_38 ?_
          refine lv_topi (fun v6 ev6 => ?_)
          have ev6 : v6 = gl i9 := by rw [ev6]; rw [nI_clamp (by omega)]
          subst ev6
          refine lv_aload_n hx hb dX3_endTrial_39 rfl (lv_at hl 2 rfl) ?_
          refine va_get (D := (dC, dI)) (ci := 3) (v := .ref lw) (C := RX3) (T := TX3) (N := 5) hx hb hts hiX3 hown hK hP 2 rfl rfl 0 (by decide) (hts (.fieldLink RX3 11 "TributePitches$Lode" "lows" "[I") (by decide +kernel)) (fun _ h9 => h9) rfl dX3_endTrial_40 ?_
          refine lv_iload_n hx hb dX3_endTrial_43 rfl (lv_at hl 0 rfl) ?_
          refine va_iald hx hb hK hP 0 0 rfl rfl (vp_in_nI (by omega) (by omega)) dX3_endTrial_44 ?_
          refine lv_topi (fun v7 ev7 => ?_)
          have ev7 : v7 = fl i9 := by rw [ev7]; rw [nI_clamp (by omega)]
          subst ev7
          refine lv_icmp_ne (tgt := 63) hx hb dX3_endTrial_45 (by decide) (fun c8 => ?_) (fun c8 => ?_)
          · skip
            refine lv_iinc (v := nI (fa_cnt (chg fl fh gl gh) i9 + 1)) (lv' := [(2, .int (nI (fa_cnt (chg fl fh gl gh) i9 + 1))), (3, .int (nI i9)), (0, .ref ql), (1, .int dd)]) hx hb dX3_endTrial_63 hl (k := 1) rfl (nI_1 _) (by decide) rfl (fun ls hl => ?_)
            refine lv_iinc (v := nI (i9 + 1)) (lv' := [(3, .int (nI (i9 + 1))), (2, .int (nI (fa_cnt (chg fl fh gl gh) i9 + 1))), (0, .ref ql), (1, .int dd)]) hx hb dX3_endTrial_66 hl (k := 1) rfl (nI_1 i9) (by decide) rfl (fun ls hl => ?_)
            refine lv_goto (tgt := 9) hx hb dX3_endTrial_69 (by decide) ?_
            have e9 : fa_cnt (chg fl fh gl gh) (i9 + 1) = fa_cnt (chg fl fh gl gh) i9 + 1 := fa_cnt_yes (by simp [chg, c5, c8])
            rw [← e9] at hl
            have hl : lv_has ls 4 [(3, .int (nI (i9 + 1))), (2, .int (nI (fa_cnt (chg fl fh gl gh) (i9 + 1)))), (0, .ref ql), (1, .int dd)] := hl
            exact ihi9 (i9 + 1)  _ _ ls (by omega) (by omega)  (hP.sub [0, 1, 2, 3, 4] rfl) (hD.sub [0, 1, 2, 3, 4] (by decide) rfl) hS (lv_sub hl [0, 1, 2, 3] rfl)
          · skip
            refine lv_aload_n hx hb dX3_endTrial_48 rfl (lv_at hl 2 rfl) ?_
            refine va_get (D := (dC, dI)) (ci := 3) (v := .ref th) (C := RX3) (T := TX3) (N := 5) hx hb hts hiX3 hown hK hP 2 rfl rfl 3 (by decide) (hts (.fieldLink RX3 21 "TributePitches$Lode" "triedHighs" "[I") (by decide +kernel)) (fun _ h9 => h9) rfl dX3_endTrial_49 ?_
            refine lv_iload_n hx hb dX3_endTrial_52 rfl (lv_at hl 0 rfl) ?_
            refine va_iald hx hb hK hP 4 0 rfl rfl (vp_in_nI (by omega) (by omega)) dX3_endTrial_53 ?_
            refine lv_topi (fun v9 ev9 => ?_)
            have ev9 : v9 = gh i9 := by rw [ev9]; rw [nI_clamp (by omega)]
            subst ev9
            refine lv_aload_n hx hb dX3_endTrial_54 rfl (lv_at hl 2 rfl) ?_
            refine va_get (D := (dC, dI)) (ci := 3) (v := .ref hg) (C := RX3) (T := TX3) (N := 5) hx hb hts hiX3 hown hK hP 2 rfl rfl 1 (by decide) (hts (.fieldLink RX3 15 "TributePitches$Lode" "highs" "[I") (by decide +kernel)) (fun _ h9 => h9) rfl dX3_endTrial_55 ?_
            refine lv_iload_n hx hb dX3_endTrial_58 rfl (lv_at hl 0 rfl) ?_
            refine va_iald hx hb hK hP 1 0 rfl rfl (vp_in_nI (by omega) (by omega)) dX3_endTrial_59 ?_
            refine lv_topi (fun v10 ev10 => ?_)
            have ev10 : v10 = fh i9 := by rw [ev10]; rw [nI_clamp (by omega)]
            subst ev10
            refine lv_icmp_eq (tgt := 66) hx hb dX3_endTrial_60 (by decide) (fun c11 => ?_) (fun c11 => ?_)
            · skip
              refine lv_iinc (v := nI (i9 + 1)) (lv' := [(3, .int (nI (i9 + 1))), (2, .int (nI (fa_cnt (chg fl fh gl gh) i9))), (0, .ref ql), (1, .int dd)]) hx hb dX3_endTrial_66 hl (k := 0) rfl (nI_1 i9) (by decide) rfl (fun ls hl => ?_)
              refine lv_goto (tgt := 9) hx hb dX3_endTrial_69 (by decide) ?_
              have e9 : fa_cnt (chg fl fh gl gh) (i9 + 1) = fa_cnt (chg fl fh gl gh) i9 := fa_cnt_no (by simp [chg, c8, c11])
              rw [← e9] at hl
              have hl : lv_has ls 4 [(3, .int (nI (i9 + 1))), (2, .int (nI (fa_cnt (chg fl fh gl gh) (i9 + 1)))), (0, .ref ql), (1, .int dd)] := hl
              exact ihi9 (i9 + 1)  _ _ ls (by omega) (by omega)  (hP.sub [0, 1, 2, 3, 4] rfl) (hD.sub [0, 1, 2, 3, 4] (by decide) rfl) hS (lv_sub hl [0, 1, 2, 3] rfl)
            · skip
              refine lv_iinc (v := nI (fa_cnt (chg fl fh gl gh) i9 + 1)) (lv' := [(2, .int (nI (fa_cnt (chg fl fh gl gh) i9 + 1))), (3, .int (nI i9)), (0, .ref ql), (1, .int dd)]) hx hb dX3_endTrial_63 hl (k := 1) rfl (nI_1 _) (by decide) rfl (fun ls hl => ?_)
              refine lv_iinc (v := nI (i9 + 1)) (lv' := [(3, .int (nI (i9 + 1))), (2, .int (nI (fa_cnt (chg fl fh gl gh) i9 + 1))), (0, .ref ql), (1, .int dd)]) hx hb dX3_endTrial_66 hl (k := 1) rfl (nI_1 i9) (by decide) rfl (fun ls hl => ?_)
              refine lv_goto (tgt := 9) hx hb dX3_endTrial_69 (by decide) ?_
              have e9 : fa_cnt (chg fl fh gl gh) (i9 + 1) = fa_cnt (chg fl fh gl gh) i9 + 1 := fa_cnt_yes (by simp [chg, c8, c11])
              rw [← e9] at hl
              have hl : lv_has ls 4 [(3, .int (nI (i9 + 1))), (2, .int (nI (fa_cnt (chg fl fh gl gh) (i9 + 1)))), (0, .ref ql), (1, .int dd)] := hl
              exact ihi9 (i9 + 1)  _ _ ls (by omega) (by omega)  (hP.sub [0, 1, 2, 3, 4] rfl) (hD.sub [0, 1, 2, 3, 4] (by decide) rfl) hS (lv_sub hl [0, 1, 2, 3] rfl)
        · exact absurd c5 (not_not_intro (Int32.not_lt.mp (hok _ (by omega))))
  exact loop9 (48 + 1 - 0) 0  _ _ ls (by omega) (by omega)  hP hD hS (lv_sub hl [0, 1, 2, 3] rfl)
