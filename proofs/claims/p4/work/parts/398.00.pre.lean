theorem rng_of {a b : Nat → Int32} (h : ∀ j, j < 48 → 0 ≤ (a j).toInt ∧ (a j).toInt ≤ 1000 ∧ 0 ≤ (b j).toInt ∧ (b j).toInt ≤ 1000) : rngL a ∧ rngL b := ⟨fun j hj => ⟨(h j hj).1, (h j hj).2.1⟩, fun j hj => (h j hj).2.2⟩
theorem rng_tcL {a : Nat → Int32} {s : Nat} {v : Int32} (h : rngL a) (hv : 0 ≤ v ∧ v ≤ 1000) : rngL (tcL s v a) := fun j hj => by
  have q1 := (fa_le _ _).mp hv.1
  have q2 := (fa_le _ _).mp hv.2
  by_cases hs : j = s
  · subst hs; rw [tcL_at]; split
    · exact ⟨q1, q2⟩
    · exact h j hj
  · rw [tcL_ne hs]; exact h j hj
theorem rng_tcH {a : Nat → Int32} {s : Nat} {v : Int32} (h : rngL a) (hv : 0 ≤ v ∧ v ≤ 1000) : rngL (tcH s v a) := fun j hj => by
  have q1 := (fa_le _ _).mp hv.1
  have q2 := (fa_le _ _).mp hv.2
  by_cases hs : j = s
  · subst hs; rw [tcH_at]; split
    · exact ⟨q1, q2⟩
    · exact h j hj
  · rw [tcH_ne hs]; exact h j hj
theorem nar_ok {fa dd fa1 : Int32} {fl fh fl1 fh1 al1 ah1 : Nat → Int32} {A B C D E F : Prop} (h : (A ∧ (rngL al1 ∧ rngL ah1)) ∧ ((B ∧ C ∧ fl1 = fl ∧ fh1 = fh ∧ fa1 = fa) ∨ (D ∧ E ∧ F ∧ fl1 = al1 ∧ fh1 = ah1 ∧ fa1 = dd))) (hr : rngL fl ∧ rngL fh) (hf : 0 ≤ fa.toInt ∧ fa.toInt ≤ 1000) (hd : 0 ≤ dd.toInt ∧ dd.toInt ≤ 1000) : (0 ≤ fa1.toInt ∧ fa1.toInt ≤ 1000) ∧ rngL fl1 ∧ rngL fh1 := by
  obtain ⟨⟨_, h1⟩, ⟨_, _, rfl, rfl, rfl⟩ | ⟨_, _, _, rfl, rfl, rfl⟩⟩ := h
  · exact ⟨hf, hr⟩
  · exact ⟨hd, h1⟩
theorem inv_nar {z : RS2} {i' : Nat → Int32} {fl fh al ah : Nat → Int32} (hI : invR z) (e1 : i' 20 = rs_i z 20) (e2 : i' 22 = rs_i z 22) (e3 : i' 23 = rs_i z 23) (h1 : 0 ≤ (i' 1).toInt ∧ (i' 1).toInt ≤ 1000) (h2 : rngL fl ∧ rngL fh) : invR (i', rs_n z, va_up (va_up (va_up (va_up (rs_I z) 2 fl) 3 fh) 4 al) 5 ah, rs_L z) := by
  obtain ⟨h0, hfar, hlh, hss, hsold, htk, hpk⟩ := hI
  refine ⟨h0, h1, (fun j hj => ⟨(h2.1 j hj).1, (h2.1 j hj).2, (h2.2 j hj).1, (h2.2 j hj).2⟩), hss, ?_, htk, hpk⟩
  show i' 20 = -9 ∨ ((∃ p, p < rs_n z 0 ∧ i' 20 = nI p) ∧ (i' 22 = 0 ∨ ∃ g, g < rs_n z 1 ∧ i' 23 = nI g))
  rw [e1, e2, e3]
  exact hsold
theorem rg_d {d : Int32} (h : 0 ≤ d ∧ d ≤ 1000) : 0 ≤ d.toInt ∧ d.toInt ≤ 1000 := ⟨(fa_le _ _).mp h.1, (fa_le _ _).mp h.2⟩
set_option maxHeartbeats 4000000 in
set_option maxRecDepth 100000 in
theorem c_X11_layNew (l : Launch) (dC : Nat → ClassId) (dI : Nat → Nat → Nat) (cI : ClassId) (sz : Nat) (qm : Nat) (w0 : Value) (w1 : Value) (w6 : Value) (w7 : Value) (w8 : Value) (w9 : Value) (w10 : Value) (w11 : Value) (w12 : Value) (w13 : Value) (w14 : Value) (w15 : Value) (w16 : Value) (w17 : Value) (w18 : Value) (w19 : Value) (w20 : Value) (w21 : Value) (w22 : Value) (w23 : Value) (w24 : Value) (w25 : Value) (w26 : Value) (w27 : Value) (w28 : Value) (w29 : Value) (w30 : Value) (w31 : Value) (w32 : Value) (w33 : Value) (w34 : Value) (w35 : Value) (w36 : Value) (w37 : Value) (w38 : Value) (nl : Nat) (nh : Nat) (lo : Nat) (hi : Nat) (fl : Nat → Int32) (fh : Nat → Int32) (gl : Nat → Int32) (gh : Nat → Int32)  : Met l yX11_layNew wsX11_layNew ({ frames := 0, cells := 0, slots := 0, locals := 0 }) (pw (dC, dI) [(cI, .int)] [(qm, .inr (11, [w0, w1, .ref lo, .ref hi, .ref nl, .ref nh, w6, w7, w8, w9, w10, w11, w12, w13, w14, w15, w16, w17, w18, w19, w20, w21, w22, w23, w24, w25, w26, w27, w28, w29, w30, w31, w32, w33, w34, w35, w36, w37, w38])), (lo, .inl (cI, 48, .inl fl)), (hi, .inl (cI, 48, .inl fh)), (nl, .inl (cI, 48, .inl gl)), (nh, .inl (cI, 48, .inl gh))] sz [.ref qm]) (va_Qv (fun (_ : Unit) => True) (fun _ t => bw (dC, dI) [(cI, .int)] (va_A [(qm, .inr (11, [w0, w1, .ref lo, .ref hi, .ref nl, .ref nh, w6, w7, w8, w9, w10, w11, w12, w13, w14, w15, w16, w17, w18, w19, w20, w21, w22, w23, w24, w25, w26, w27, w28, w29, w30, w31, w32, w33, w34, w35, w36, w37, w38])), (lo, .inl (cI, 48, .inl fl)), (hi, .inl (cI, 48, .inl fh)), (nl, .inl (cI, 48, .inl gl)), (nh, .inl (cI, 48, .inl gh))] sz) [(qm, .inr (11, [w0, w1, .ref lo, .ref hi, .ref nl, .ref nh, w6, w7, w8, w9, w10, w11, w12, w13, w14, w15, w16, w17, w18, w19, w20, w21, w22, w23, w24, w25, w26, w27, w28, w29, w30, w31, w32, w33, w34, w35, w36, w37, w38])), (lo, .inl (cI, 48, .inl fl)), (hi, .inl (cI, 48, .inl fh)), (nl, .inl (cI, 48, .inl fl)), (nh, .inl (cI, 48, .inl fh))] t) (va_A [(qm, .inr (11, [w0, w1, .ref lo, .ref hi, .ref nl, .ref nh, w6, w7, w8, w9, w10, w11, w12, w13, w14, w15, w16, w17, w18, w19, w20, w21, w22, w23, w24, w25, w26, w27, w28, w29, w30, w31, w32, w33, w34, w35, w36, w37, w38])), (lo, .inl (cI, 48, .inl fl)), (hi, .inl (cI, 48, .inl fh)), (nl, .inl (cI, 48, .inl gl)), (nh, .inl (cI, 48, .inl gh))] sz)) 0 0 (va_A [(qm, .inr (11, [w0, w1, .ref lo, .ref hi, .ref nl, .ref nh, w6, w7, w8, w9, w10, w11, w12, w13, w14, w15, w16, w17, w18, w19, w20, w21, w22, w23, w24, w25, w26, w27, w28, w29, w30, w31, w32, w33, w34, w35, w36, w37, w38])), (lo, .inl (cI, 48, .inl fl)), (hi, .inl (cI, 48, .inl fh)), (nl, .inl (cI, 48, .inl gl)), (nh, .inl (cI, 48, .inl gh))] sz) := by
  refine pw_met (cc := cX11_layNew) (maxL := 2) (ret := none) (by decide) rfl (Nat.le_of_ble_eq_true rfl) ?_
  intro p e s m below meth c0 hx hb hr hml hown hlocks hnm hts hP hK hD hN hsz hA hS ls hl
  subst hsz
  have hl : lv_has ls 2 [(0, .ref qm)] := hl
  have hiX11 : ∀ w ∈ wsX110, w ∈ wsX11_layNew := by decide +kernel
  generalize hQ : MQ _ _ _ _ _ _ _ = Q
  refine lv_iconst (v := 0) hx hb dX11_layNew_0 (by decide) ?_
  refine lv_istore_n (lv' := [(1, .int 0), (0, .ref qm)]) hx hb dX11_layNew_1 rfl hl (by decide) rfl (fun ls hl => ?_)
  have hP := va_P_cg hP 3 (fa_fill fl gl 0) rfl (fun j _ => (congrFun (fa_fill_0 fl gl) j).symm)
  have hD := va_D_cg hD 3 (fa_fill fl gl 0) rfl
  have hP : va_P (dC, dI) vwCl [(qm, .inr (11, [w0, w1, .ref lo, .ref hi, .ref nl, .ref nh, w6, w7, w8, w9, w10, w11, w12, w13, w14, w15, w16, w17, w18, w19, w20, w21, w22, w23, w24, w25, w26, w27, w28, w29, w30, w31, w32, w33, w34, w35, w36, w37, w38])), (lo, .inl (cI, 48, .inl fl)), (hi, .inl (cI, 48, .inl fh)), (nl, .inl (cI, 48, .inl (fa_fill fl gl 0))), (nh, .inl (cI, 48, .inl gh))] s.heap := hP
  have hD : va_D _ [(qm, .inr (11, [w0, w1, .ref lo, .ref hi, .ref nl, .ref nh, w6, w7, w8, w9, w10, w11, w12, w13, w14, w15, w16, w17, w18, w19, w20, w21, w22, w23, w24, w25, w26, w27, w28, w29, w30, w31, w32, w33, w34, w35, w36, w37, w38])), (lo, .inl (cI, 48, .inl fl)), (hi, .inl (cI, 48, .inl fh)), (nl, .inl (cI, 48, .inl (fa_fill fl gl 0))), (nh, .inl (cI, 48, .inl gh))] := hD
  have hP := va_P_cg hP 4 (fa_fill fh gh 0) rfl (fun j _ => (congrFun (fa_fill_0 fh gh) j).symm)
  have hD := va_D_cg hD 4 (fa_fill fh gh 0) rfl
  have hP : va_P (dC, dI) vwCl [(qm, .inr (11, [w0, w1, .ref lo, .ref hi, .ref nl, .ref nh, w6, w7, w8, w9, w10, w11, w12, w13, w14, w15, w16, w17, w18, w19, w20, w21, w22, w23, w24, w25, w26, w27, w28, w29, w30, w31, w32, w33, w34, w35, w36, w37, w38])), (lo, .inl (cI, 48, .inl fl)), (hi, .inl (cI, 48, .inl fh)), (nl, .inl (cI, 48, .inl (fa_fill fl gl 0))), (nh, .inl (cI, 48, .inl (fa_fill fh gh 0)))] s.heap := hP
  have hD : va_D _ [(qm, .inr (11, [w0, w1, .ref lo, .ref hi, .ref nl, .ref nh, w6, w7, w8, w9, w10, w11, w12, w13, w14, w15, w16, w17, w18, w19, w20, w21, w22, w23, w24, w25, w26, w27, w28, w29, w30, w31, w32, w33, w34, w35, w36, w37, w38])), (lo, .inl (cI, 48, .inl fl)), (hi, .inl (cI, 48, .inl fh)), (nl, .inl (cI, 48, .inl (fa_fill fl gl 0))), (nh, .inl (cI, 48, .inl (fa_fill fh gh 0)))] := hD
  have loop2 : ∀ (ni2 i2 : Nat) (H : Heap) (locs : List Loc) (ls : Array Slot), i2 ≤ 48 → 48 + 1 ≤ i2 + ni2 → va_P (dC, dI) vwCl [(qm, .inr (11, [w0, w1, .ref lo, .ref hi, .ref nl, .ref nh, w6, w7, w8, w9, w10, w11, w12, w13, w14, w15, w16, w17, w18, w19, w20, w21, w22, w23, w24, w25, w26, w27, w28, w29, w30, w31, w32, w33, w34, w35, w36, w37, w38])), (lo, .inl (cI, 48, .inl fl)), (hi, .inl (cI, 48, .inl fh)), (nl, .inl (cI, 48, .inl (fa_fill fl gl i2))), (nh, .inl (cI, 48, .inl (fa_fill fh gh i2)))] H → va_D (va_A [(qm, .inr (11, [w0, w1, .ref lo, .ref hi, .ref nl, .ref nh, w6, w7, w8, w9, w10, w11, w12, w13, w14, w15, w16, w17, w18, w19, w20, w21, w22, w23, w24, w25, w26, w27, w28, w29, w30, w31, w32, w33, w34, w35, w36, w37, w38])), (lo, .inl (cI, 48, .inl fl)), (hi, .inl (cI, 48, .inl fh)), (nl, .inl (cI, 48, .inl gl)), (nh, .inl (cI, 48, .inl gh))] s.heap.size) [(qm, .inr (11, [w0, w1, .ref lo, .ref hi, .ref nl, .ref nh, w6, w7, w8, w9, w10, w11, w12, w13, w14, w15, w16, w17, w18, w19, w20, w21, w22, w23, w24, w25, w26, w27, w28, w29, w30, w31, w32, w33, w34, w35, w36, w37, w38])), (lo, .inl (cI, 48, .inl fl)), (hi, .inl (cI, 48, .inl fh)), (nl, .inl (cI, 48, .inl (fa_fill fl gl i2))), (nh, .inl (cI, 48, .inl (fa_fill fh gh i2)))] → va_S (va_A [(qm, .inr (11, [w0, w1, .ref lo, .ref hi, .ref nl, .ref nh, w6, w7, w8, w9, w10, w11, w12, w13, w14, w15, w16, w17, w18, w19, w20, w21, w22, w23, w24, w25, w26, w27, w28, w29, w30, w31, w32, w33, w34, w35, w36, w37, w38])), (lo, .inl (cI, 48, .inl fl)), (hi, .inl (cI, 48, .inl fh)), (nl, .inl (cI, 48, .inl gl)), (nh, .inl (cI, 48, .inl gh))] s.heap.size) s.heap H locs → lv_has ls 2 [(1, .int (nI i2)), (0, .ref qm)] → W p l e ({ frames := 0, cells := 0, slots := 0, locals := 0 } : Room) s m ([.ref qm] : List Value).toArray below meth c0 H locs 0 0 Q (F0 m 2 ls []) := by
    intro ni2
    induction ni2 with
    | zero =>
      intro i2  H locs ls h1 h2
      exact absurd h2 (by omega)
    | succ ni2 ihi2 =>
      intro i2  H locs ls hlei2 hni2  hP hD hS hl
      refine lv_iload_n hx hb dX11_layNew_2 rfl (lv_at hl 0 rfl) ?_
      refine lv_bipush (v := 48) hx hb dX11_layNew_3 (by decide) ?_
      refine lv_icmp_ge (tgt := 38) hx hb dX11_layNew_5 (by decide) (fun c1 => ?_) (fun c1 => ?_)
      · skip
        have hei2 : i2 = 48 := (Nat.lt_or_ge i2 48).elim (fun q => absurd c1 (show ¬ nI 48 ≤ nI i2 from nI_ge q (by omega))) (fun q => by omega)
        have hP := va_P_cg hP 3 fl rfl (fun j hj => fa_fill_in (by omega))
        have hD := va_D_cg hD 3 fl rfl
        have hP : va_P (dC, dI) vwCl [(qm, .inr (11, [w0, w1, .ref lo, .ref hi, .ref nl, .ref nh, w6, w7, w8, w9, w10, w11, w12, w13, w14, w15, w16, w17, w18, w19, w20, w21, w22, w23, w24, w25, w26, w27, w28, w29, w30, w31, w32, w33, w34, w35, w36, w37, w38])), (lo, .inl (cI, 48, .inl fl)), (hi, .inl (cI, 48, .inl fh)), (nl, .inl (cI, 48, .inl fl)), (nh, .inl (cI, 48, .inl (fa_fill fh gh i2)))] H := hP
        have hD : va_D _ [(qm, .inr (11, [w0, w1, .ref lo, .ref hi, .ref nl, .ref nh, w6, w7, w8, w9, w10, w11, w12, w13, w14, w15, w16, w17, w18, w19, w20, w21, w22, w23, w24, w25, w26, w27, w28, w29, w30, w31, w32, w33, w34, w35, w36, w37, w38])), (lo, .inl (cI, 48, .inl fl)), (hi, .inl (cI, 48, .inl fh)), (nl, .inl (cI, 48, .inl fl)), (nh, .inl (cI, 48, .inl (fa_fill fh gh i2)))] := hD
        have hP := va_P_cg hP 4 fh rfl (fun j hj => fa_fill_in (by omega))
        have hD := va_D_cg hD 4 fh rfl
        have hP : va_P (dC, dI) vwCl [(qm, .inr (11, [w0, w1, .ref lo, .ref hi, .ref nl, .ref nh, w6, w7, w8, w9, w10, w11, w12, w13, w14, w15, w16, w17, w18, w19, w20, w21, w22, w23, w24, w25, w26, w27, w28, w29, w30, w31, w32, w33, w34, w35, w36, w37, w38])), (lo, .inl (cI, 48, .inl fl)), (hi, .inl (cI, 48, .inl fh)), (nl, .inl (cI, 48, .inl fl)), (nh, .inl (cI, 48, .inl fh))] H := hP
        have hD : va_D _ [(qm, .inr (11, [w0, w1, .ref lo, .ref hi, .ref nl, .ref nh, w6, w7, w8, w9, w10, w11, w12, w13, w14, w15, w16, w17, w18, w19, w20, w21, w22, w23, w24, w25, w26, w27, w28, w29, w30, w31, w32, w33, w34, w35, w36, w37, w38])), (lo, .inl (cI, 48, .inl fl)), (hi, .inl (cI, 48, .inl fh)), (nl, .inl (cI, 48, .inl fl)), (nh, .inl (cI, 48, .inl fh))] := hD
        subst hQ
        have hP9 := hP.sub (ws' := [(qm, .inr (11, [w0, w1, .ref lo, .ref hi, .ref nl, .ref nh, w6, w7, w8, w9, w10, w11, w12, w13, w14, w15, w16, w17, w18, w19, w20, w21, w22, w23, w24, w25, w26, w27, w28, w29, w30, w31, w32, w33, w34, w35, w36, w37, w38])), (lo, .inl (cI, 48, .inl fl)), (hi, .inl (cI, 48, .inl fh)), (nl, .inl (cI, 48, .inl fl)), (nh, .inl (cI, 48, .inl fh))]) [0, 1, 2, 3, 4] rfl
        have hD9 := hD.sub (ws' := [(qm, .inr (11, [w0, w1, .ref lo, .ref hi, .ref nl, .ref nh, w6, w7, w8, w9, w10, w11, w12, w13, w14, w15, w16, w17, w18, w19, w20, w21, w22, w23, w24, w25, w26, w27, w28, w29, w30, w31, w32, w33, w34, w35, w36, w37, w38])), (lo, .inl (cI, 48, .inl fl)), (hi, .inl (cI, 48, .inl fh)), (nl, .inl (cI, 48, .inl fl)), (nh, .inl (cI, 48, .inl fh))]) [0, 1, 2, 3, 4] (by decide) rfl
        have hK9 := hK.sub (tys' := [(cI, .int)]) [0] rfl
        exact W.vret hx hb hr (fun t ht hW => ⟨⟨(), rfl, trivial, ⟨by rw [ht]; exact hP9, va_K.moved hW.alike hK9, hD9⟩⟩, hS.F ht⟩) hS.2.2 dX11_layNew_38
      · skip
        have hlti2 : i2 < 48 := (Nat.lt_or_ge i2 48).elim id (fun q => absurd (show nI 48 ≤ nI i2 from nI_le q (by omega)) c1)
        refine lv_aload_n hx hb dX11_layNew_8 rfl (lv_at hl 1 rfl) ?_
        refine va_get (D := (dC, dI)) (ci := 11) (v := .ref nl) (C := RX11) (T := TX11) (N := 39) hx hb hts hiX11 hown hK hP 0 rfl rfl 4 (by decide) (hts (.fieldLink RX11 16 "TributePitchesModel" "newLow" "[I") (by decide +kernel)) (fun _ h9 => h9) rfl dX11_layNew_9 ?_
        refine lv_iload_n hx hb dX11_layNew_12 rfl (lv_at hl 0 rfl) ?_
        refine lv_aload_n hx hb dX11_layNew_13 rfl (lv_at hl 1 rfl) ?_
        refine va_get (D := (dC, dI)) (ci := 11) (v := .ref lo) (C := RX11) (T := TX11) (N := 39) hx hb hts hiX11 hown hK hP 0 rfl rfl 2 (by decide) (hts (.fieldLink RX11 7 "TributePitchesModel" "low" "[I") (by decide +kernel)) (fun _ h9 => h9) rfl dX11_layNew_14 ?_
        refine lv_iload_n hx hb dX11_layNew_17 rfl (lv_at hl 0 rfl) ?_
        refine va_iald hx hb hK hP 1 0 rfl rfl (vp_in_nI (by omega) (by omega)) dX11_layNew_18 ?_
        refine lv_topi (fun v2 ev2 => ?_)
        have ev2 : v2 = fl i2 := by rw [ev2]; rw [nI_clamp (by omega)]
        subst ev2
        refine va_iast hx hb hK hP hD hS 3 0 rfl rfl (vp_in_nI (by omega) (by omega)) dX11_layNew_19 (fun H locs hP hD hS => ?_)
        have hP : va_P (dC, dI) vwCl [(qm, .inr (11, [w0, w1, .ref lo, .ref hi, .ref nl, .ref nh, w6, w7, w8, w9, w10, w11, w12, w13, w14, w15, w16, w17, w18, w19, w20, w21, w22, w23, w24, w25, w26, w27, w28, w29, w30, w31, w32, w33, w34, w35, w36, w37, w38])), (lo, .inl (cI, 48, .inl fl)), (hi, .inl (cI, 48, .inl fh)), (nl, .inl (cI, 48, .inl (upd (fa_fill fl gl i2) (nI i2).toNatClampNeg (fl i2)))), (nh, .inl (cI, 48, .inl (fa_fill fh gh i2)))] H := hP
        have hD : va_D _ [(qm, .inr (11, [w0, w1, .ref lo, .ref hi, .ref nl, .ref nh, w6, w7, w8, w9, w10, w11, w12, w13, w14, w15, w16, w17, w18, w19, w20, w21, w22, w23, w24, w25, w26, w27, w28, w29, w30, w31, w32, w33, w34, w35, w36, w37, w38])), (lo, .inl (cI, 48, .inl fl)), (hi, .inl (cI, 48, .inl fh)), (nl, .inl (cI, 48, .inl (upd (fa_fill fl gl i2) (nI i2).toNatClampNeg (fl i2)))), (nh, .inl (cI, 48, .inl (fa_fill fh gh i2)))] := hD
        have hP := va_P_cg hP 3 (fa_fill fl gl (i2 + 1)) rfl (fun j _ => by rw [nI_clamp (by omega)]; exact congrFun (fa_fill_succ fl gl i2) j)
        have hD := va_D_cg hD 3 (fa_fill fl gl (i2 + 1)) rfl
        have hP : va_P (dC, dI) vwCl [(qm, .inr (11, [w0, w1, .ref lo, .ref hi, .ref nl, .ref nh, w6, w7, w8, w9, w10, w11, w12, w13, w14, w15, w16, w17, w18, w19, w20, w21, w22, w23, w24, w25, w26, w27, w28, w29, w30, w31, w32, w33, w34, w35, w36, w37, w38])), (lo, .inl (cI, 48, .inl fl)), (hi, .inl (cI, 48, .inl fh)), (nl, .inl (cI, 48, .inl (fa_fill fl gl (i2 + 1)))), (nh, .inl (cI, 48, .inl (fa_fill fh gh i2)))] H := hP
        have hD : va_D _ [(qm, .inr (11, [w0, w1, .ref lo, .ref hi, .ref nl, .ref nh, w6, w7, w8, w9, w10, w11, w12, w13, w14, w15, w16, w17, w18, w19, w20, w21, w22, w23, w24, w25, w26, w27, w28, w29, w30, w31, w32, w33, w34, w35, w36, w37, w38])), (lo, .inl (cI, 48, .inl fl)), (hi, .inl (cI, 48, .inl fh)), (nl, .inl (cI, 48, .inl (fa_fill fl gl (i2 + 1)))), (nh, .inl (cI, 48, .inl (fa_fill fh gh i2)))] := hD
        refine lv_aload_n hx hb dX11_layNew_20 rfl (lv_at hl 1 rfl) ?_
        refine va_get (D := (dC, dI)) (ci := 11) (v := .ref nh) (C := RX11) (T := TX11) (N := 39) hx hb hts hiX11 hown hK hP 0 rfl rfl 5 (by decide) (hts (.fieldLink RX11 19 "TributePitchesModel" "newHigh" "[I") (by decide +kernel)) (fun _ h9 => h9) rfl dX11_layNew_21 ?_
        refine lv_iload_n hx hb dX11_layNew_24 rfl (lv_at hl 0 rfl) ?_
        refine lv_aload_n hx hb dX11_layNew_25 rfl (lv_at hl 1 rfl) ?_
        refine va_get (D := (dC, dI)) (ci := 11) (v := .ref hi) (C := RX11) (T := TX11) (N := 39) hx hb hts hiX11 hown hK hP 0 rfl rfl 3 (by decide) (hts (.fieldLink RX11 13 "TributePitchesModel" "high" "[I") (by decide +kernel)) (fun _ h9 => h9) rfl dX11_layNew_26 ?_
        refine lv_iload_n hx hb dX11_layNew_29 rfl (lv_at hl 0 rfl) ?_
        refine va_iald hx hb hK hP 2 0 rfl rfl (vp_in_nI (by omega) (by omega)) dX11_layNew_30 ?_
        refine lv_topi (fun v3 ev3 => ?_)
        have ev3 : v3 = fh i2 := by rw [ev3]; rw [nI_clamp (by omega)]
        subst ev3
        refine va_iast hx hb hK hP hD hS 4 0 rfl rfl (vp_in_nI (by omega) (by omega)) dX11_layNew_31 (fun H locs hP hD hS => ?_)
        have hP : va_P (dC, dI) vwCl [(qm, .inr (11, [w0, w1, .ref lo, .ref hi, .ref nl, .ref nh, w6, w7, w8, w9, w10, w11, w12, w13, w14, w15, w16, w17, w18, w19, w20, w21, w22, w23, w24, w25, w26, w27, w28, w29, w30, w31, w32, w33, w34, w35, w36, w37, w38])), (lo, .inl (cI, 48, .inl fl)), (hi, .inl (cI, 48, .inl fh)), (nl, .inl (cI, 48, .inl (fa_fill fl gl (i2 + 1)))), (nh, .inl (cI, 48, .inl (upd (fa_fill fh gh i2) (nI i2).toNatClampNeg (fh i2))))] H := hP
        have hD : va_D _ [(qm, .inr (11, [w0, w1, .ref lo, .ref hi, .ref nl, .ref nh, w6, w7, w8, w9, w10, w11, w12, w13, w14, w15, w16, w17, w18, w19, w20, w21, w22, w23, w24, w25, w26, w27, w28, w29, w30, w31, w32, w33, w34, w35, w36, w37, w38])), (lo, .inl (cI, 48, .inl fl)), (hi, .inl (cI, 48, .inl fh)), (nl, .inl (cI, 48, .inl (fa_fill fl gl (i2 + 1)))), (nh, .inl (cI, 48, .inl (upd (fa_fill fh gh i2) (nI i2).toNatClampNeg (fh i2))))] := hD
        have hP := va_P_cg hP 4 (fa_fill fh gh (i2 + 1)) rfl (fun j _ => by rw [nI_clamp (by omega)]; exact congrFun (fa_fill_succ fh gh i2) j)
        have hD := va_D_cg hD 4 (fa_fill fh gh (i2 + 1)) rfl
        have hP : va_P (dC, dI) vwCl [(qm, .inr (11, [w0, w1, .ref lo, .ref hi, .ref nl, .ref nh, w6, w7, w8, w9, w10, w11, w12, w13, w14, w15, w16, w17, w18, w19, w20, w21, w22, w23, w24, w25, w26, w27, w28, w29, w30, w31, w32, w33, w34, w35, w36, w37, w38])), (lo, .inl (cI, 48, .inl fl)), (hi, .inl (cI, 48, .inl fh)), (nl, .inl (cI, 48, .inl (fa_fill fl gl (i2 + 1)))), (nh, .inl (cI, 48, .inl (fa_fill fh gh (i2 + 1))))] H := hP
        have hD : va_D _ [(qm, .inr (11, [w0, w1, .ref lo, .ref hi, .ref nl, .ref nh, w6, w7, w8, w9, w10, w11, w12, w13, w14, w15, w16, w17, w18, w19, w20, w21, w22, w23, w24, w25, w26, w27, w28, w29, w30, w31, w32, w33, w34, w35, w36, w37, w38])), (lo, .inl (cI, 48, .inl fl)), (hi, .inl (cI, 48, .inl fh)), (nl, .inl (cI, 48, .inl (fa_fill fl gl (i2 + 1)))), (nh, .inl (cI, 48, .inl (fa_fill fh gh (i2 + 1))))] := hD
        refine lv_iinc (v := nI (i2 + 1)) (lv' := [(1, .int (nI (i2 + 1))), (0, .ref qm)]) hx hb dX11_layNew_32 hl (k := 0) rfl (nI_1 i2) (by decide) rfl (fun ls hl => ?_)
        refine lv_goto (tgt := 2) hx hb dX11_layNew_35 (by decide) ?_
        exact ihi2 (i2 + 1)  _ _ ls (by omega) (by omega)  (hP.sub [0, 1, 2, 3, 4] rfl) (hD.sub [0, 1, 2, 3, 4] (by decide) rfl) hS (lv_sub hl [0, 1] rfl)
  exact loop2 (48 + 1 - 0) 0  _ _ ls (by omega) (by omega)  hP hD hS (lv_sub hl [0, 1] rfl)
