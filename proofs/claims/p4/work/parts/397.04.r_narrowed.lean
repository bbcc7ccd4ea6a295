set_option maxHeartbeats 4000000 in
set_option maxRecDepth 100000 in
theorem r_narrowed (l : Launch) (dC : Nat → ClassId) (dI : Nat → Nat → Nat) (cI : ClassId) (sz : Nat) (qm : Nat) (w0 : Value) (w7 : Value) (w8 : Value) (w9 : Value) (w10 : Value) (w11 : Value) (w12 : Value) (w13 : Value) (w14 : Value) (w15 : Value) (w16 : Value) (w17 : Value) (w18 : Value) (w19 : Value) (w20 : Value) (w21 : Value) (w22 : Value) (w23 : Value) (w24 : Value) (w25 : Value) (w26 : Value) (w27 : Value) (w28 : Value) (w29 : Value) (w30 : Value) (w31 : Value) (w32 : Value) (w33 : Value) (w34 : Value) (w35 : Value) (w36 : Value) (w37 : Value) (w38 : Value) (nl : Nat) (nh : Nat) (lo : Nat) (hi : Nat) (dd : Int32) (ch0 : Int32) (fa : Int32) (fl : Nat → Int32) (fh : Nat → Int32) (gl : Nat → Int32) (gh : Nat → Int32) (hd : 0 ≤ dd.toInt ∧ dd.toInt ≤ 1000) (hr1 : rngL gl) (hr2 : rngL gh) : Met l yX11_narrowed wsX11_narrowed ({ frames := 3, cells := 0, slots := 0, locals := 90 }) (pw (dC, dI) [(cI, .int)] [(qm, .inr (11, [w0, .int fa, .ref lo, .ref hi, .ref nl, .ref nh, .int ch0, w7, w8, w9, w10, w11, w12, w13, w14, w15, w16, w17, w18, w19, w20, w21, w22, w23, w24, w25, w26, w27, w28, w29, w30, w31, w32, w33, w34, w35, w36, w37, w38])), (lo, .inl (cI, 48, .inl fl)), (hi, .inl (cI, 48, .inl fh)), (nl, .inl (cI, 48, .inl gl)), (nh, .inl (cI, 48, .inl gh))] sz [.ref qm, .int dd]) (va_Qi (fun r (u : (Nat → Int32) × (Nat → Int32) × (Nat → Int32) × (Nat → Int32) × (Int32) × (Int32)) => ((minL dd gl (u.2.2.1) ∧ maxH dd gh (u.2.2.2.1)) ∧ (rngL (u.2.2.1) ∧ rngL (u.2.2.2.1))) ∧ ((r = -3 ∧ (∃ j, j < 48 ∧ (u.2.2.2.1) j < (u.2.2.1) j) ∧ (u.1) = fl ∧ (u.2.1) = fh ∧ (u.2.2.2.2.2) = fa) ∨ (r = nI (fa_cnt (chg fl fh (u.2.2.1) (u.2.2.2.1)) 48) ∧ (∀ j, j < 48 → ¬ (u.2.2.2.1) j < (u.2.2.1) j) ∧ (∀ s n, s < 48 → n < 48 → nbr s n → ((u.2.2.1) n).toInt - dd.toInt ≤ ((u.2.2.1) s).toInt ∧ ((u.2.2.2.1) s).toInt ≤ ((u.2.2.2.1) n).toInt + dd.toInt) ∧ (u.1) = (u.2.2.1) ∧ (u.2.1) = (u.2.2.2.1) ∧ (u.2.2.2.2.2) = dd))) (fun u t => bw (dC, dI) [(cI, .int)] (va_A [(qm, .inr (11, [w0, .int fa, .ref lo, .ref hi, .ref nl, .ref nh, .int ch0, w7, w8, w9, w10, w11, w12, w13, w14, w15, w16, w17, w18, w19, w20, w21, w22, w23, w24, w25, w26, w27, w28, w29, w30, w31, w32, w33, w34, w35, w36, w37, w38])), (lo, .inl (cI, 48, .inl fl)), (hi, .inl (cI, 48, .inl fh)), (nl, .inl (cI, 48, .inl gl)), (nh, .inl (cI, 48, .inl gh))] sz) [(qm, .inr (11, [w0, .int (u.2.2.2.2.2), .ref lo, .ref hi, .ref nl, .ref nh, .int (u.2.2.2.2.1), w7, w8, w9, w10, w11, w12, w13, w14, w15, w16, w17, w18, w19, w20, w21, w22, w23, w24, w25, w26, w27, w28, w29, w30, w31, w32, w33, w34, w35, w36, w37, w38])), (lo, .inl (cI, 48, .inl (u.1))), (hi, .inl (cI, 48, .inl (u.2.1))), (nl, .inl (cI, 48, .inl (u.2.2.1))), (nh, .inl (cI, 48, .inl (u.2.2.2.1)))] t) (va_A [(qm, .inr (11, [w0, .int fa, .ref lo, .ref hi, .ref nl, .ref nh, .int ch0, w7, w8, w9, w10, w11, w12, w13, w14, w15, w16, w17, w18, w19, w20, w21, w22, w23, w24, w25, w26, w27, w28, w29, w30, w31, w32, w33, w34, w35, w36, w37, w38])), (lo, .inl (cI, 48, .inl fl)), (hi, .inl (cI, 48, .inl fh)), (nl, .inl (cI, 48, .inl gl)), (nh, .inl (cI, 48, .inl gh))] sz)) 0 0 (va_A [(qm, .inr (11, [w0, .int fa, .ref lo, .ref hi, .ref nl, .ref nh, .int ch0, w7, w8, w9, w10, w11, w12, w13, w14, w15, w16, w17, w18, w19, w20, w21, w22, w23, w24, w25, w26, w27, w28, w29, w30, w31, w32, w33, w34, w35, w36, w37, w38])), (lo, .inl (cI, 48, .inl fl)), (hi, .inl (cI, 48, .inl fh)), (nl, .inl (cI, 48, .inl gl)), (nh, .inl (cI, 48, .inl gh))] sz) := by
  refine pw_met (cc := cX11_narrowed) (maxL := 4) (ret := (some .int)) (by decide) rfl (Nat.le_of_ble_eq_true rfl) ?_
  intro p e s m below meth c0 hx hb hr hml hown hlocks hnm hts hP hK hD hN hsz hA hS ls hl
  subst hsz
  have hl : lv_has ls 4 [(0, .ref qm), (1, .int dd)] := hl
  have hiX11 : ∀ w ∈ wsX110, w ∈ wsX11_narrowed := by decide +kernel
  generalize hQ : MQ _ _ _ _ _ _ _ = Q
  refine lv_aload_n hx hb dX11_narrowed_0 rfl (lv_at hl 0 rfl) ?_
  refine lv_iconst (v := 1) hx hb dX11_narrowed_1 (by decide) ?_
  refine va_put (D := (dC, dI)) (ci := 11) (v := .int 1) (ty := .boolean) (C := RX11) (T := TX11) (N := 39) hx hb hts hiX11 tyX11 tyX11_ok nmX11 hown hK hP hD hS 0 rfl rfl 6 (by decide) (hts (.fieldLink RX11 117 "TributePitchesModel" "isChanged" "Z") (by decide +kernel)) (fun _ h9 => h9) rfl (by decide +kernel) rfl rfl (Nat.le_of_ble_eq_true rfl) dX11_narrowed_2 (fun H locs hP hD hS => ?_)
  have hP : va_P (dC, dI) vwCl [(qm, .inr (11, [w0, .int fa, .ref lo, .ref hi, .ref nl, .ref nh, .int 1, w7, w8, w9, w10, w11, w12, w13, w14, w15, w16, w17, w18, w19, w20, w21, w22, w23, w24, w25, w26, w27, w28, w29, w30, w31, w32, w33, w34, w35, w36, w37, w38])), (lo, .inl (cI, 48, .inl fl)), (hi, .inl (cI, 48, .inl fh)), (nl, .inl (cI, 48, .inl gl)), (nh, .inl (cI, 48, .inl gh))] H := hP
  have hD : va_D _ [(qm, .inr (11, [w0, .int fa, .ref lo, .ref hi, .ref nl, .ref nh, .int 1, w7, w8, w9, w10, w11, w12, w13, w14, w15, w16, w17, w18, w19, w20, w21, w22, w23, w24, w25, w26, w27, w28, w29, w30, w31, w32, w33, w34, w35, w36, w37, w38])), (lo, .inl (cI, 48, .inl fl)), (hi, .inl (cI, 48, .inl fh)), (nl, .inl (cI, 48, .inl gl)), (nh, .inl (cI, 48, .inl gh))] := hD
  have loop5 : ∀ (ni5 : Nat) (al : Nat → Int32) (ah : Nat → Int32) (ch : Int32) (H : Heap) (locs : List Loc) (ls : Array Slot), (msum al ah 48 + (if ch = 0 then 0 else 1)) < ni5 → ((rngL al ∧ rngL ah) ∧ (minL dd gl al ∧ maxH dd gh ah)) → (ch = 0 → (∀ s n, s < 48 → n < 48 → nbr s n → (al n).toInt - dd.toInt ≤ (al s).toInt ∧ (ah s).toInt ≤ (ah n).toInt + dd.toInt)) → va_P (dC, dI) vwCl [(qm, .inr (11, [w0, .int fa, .ref lo, .ref hi, .ref nl, .ref nh, .int ch, w7, w8, w9, w10, w11, w12, w13, w14, w15, w16, w17, w18, w19, w20, w21, w22, w23, w24, w25, w26, w27, w28, w29, w30, w31, w32, w33, w34, w35, w36, w37, w38])), (lo, .inl (cI, 48, .inl fl)), (hi, .inl (cI, 48, .inl fh)), (nl, .inl (cI, 48, .inl al)), (nh, .inl (cI, 48, .inl ah))] H → va_D (va_A [(qm, .inr (11, [w0, .int fa, .ref lo, .ref hi, .ref nl, .ref nh, .int ch0, w7, w8, w9, w10, w11, w12, w13, w14, w15, w16, w17, w18, w19, w20, w21, w22, w23, w24, w25, w26, w27, w28, w29, w30, w31, w32, w33, w34, w35, w36, w37, w38])), (lo, .inl (cI, 48, .inl fl)), (hi, .inl (cI, 48, .inl fh)), (nl, .inl (cI, 48, .inl gl)), (nh, .inl (cI, 48, .inl gh))] s.heap.size) [(qm, .inr (11, [w0, .int fa, .ref lo, .ref hi, .ref nl, .ref nh, .int ch, w7, w8, w9, w10, w11, w12, w13, w14, w15, w16, w17, w18, w19, w20, w21, w22, w23, w24, w25, w26, w27, w28, w29, w30, w31, w32, w33, w34, w35, w36, w37, w38])), (lo, .inl (cI, 48, .inl fl)), (hi, .inl (cI, 48, .inl fh)), (nl, .inl (cI, 48, .inl al)), (nh, .inl (cI, 48, .inl ah))] → va_S (va_A [(qm, .inr (11, [w0, .int fa, .ref lo, .ref hi, .ref nl, .ref nh, .int ch0, w7, w8, w9, w10, w11, w12, w13, w14, w15, w16, w17, w18, w19, w20, w21, w22, w23, w24, w25, w26, w27, w28, w29, w30, w31, w32, w33, w34, w35, w36, w37, w38])), (lo, .inl (cI, 48, .inl fl)), (hi, .inl (cI, 48, .inl fh)), (nl, .inl (cI, 48, .inl gl)), (nh, .inl (cI, 48, .inl gh))] s.heap.size) s.heap H locs → lv_has ls 4 [(0, .ref qm), (1, .int dd)] → W p l e ({ frames := 3, cells := 0, slots := 0, locals := 90 } : Room) s m ([.ref qm, .int dd] : List Value).toArray below meth c0 H locs 0 0 Q (F0 m 5 ls []) := by
    intro ni5
    induction ni5 with
    | zero =>
      intro al ah ch H locs ls h1
      exact absurd h1 (Nat.not_lt_zero _)
    | succ ni5 ihi5 =>
      intro al ah ch H locs ls hfi5 hj hcl hP hD hS hl
      refine lv_aload_n hx hb dX11_narrowed_5 rfl (lv_at hl 0 rfl) ?_
      refine va_get (D := (dC, dI)) (ci := 11) (v := .int ch) (C := RX11) (T := TX11) (N := 39) hx hb hts hiX11 hown hK hP 0 rfl rfl 6 (by decide) (hts (.fieldLink RX11 117 "TributePitchesModel" "isChanged" "Z") (by decide +kernel)) (fun _ h9 => h9) rfl dX11_narrowed_6 ?_
      refine lv_if_eq (tgt := 116) hx hb dX11_narrowed_9 (by decide) (fun c1 => ?_) (fun c1 => ?_)
      · skip
        have hc0 : ch = 0 := c1
        refine lv_iconst (v := 0) hx hb dX11_narrowed_116 (by decide) ?_
        refine lv_istore_n (lv' := [(2, .int 0), (0, .ref qm), (1, .int dd)]) hx hb dX11_narrowed_117 rfl hl (by decide) rfl (fun ls hl => ?_)
        refine lv_iconst (v := 0) hx hb dX11_narrowed_118 (by decide) ?_
        refine lv_istore_n (lv' := [(3, .int 0), (2, .int 0), (0, .ref qm), (1, .int dd)]) hx hb dX11_narrowed_119 rfl hl (by decide) rfl (fun ls hl => ?_)
        have loop120 : ∀ (ni120 i120 : Nat) (H : Heap) (locs : List Loc) (ls : Array Slot), i120 ≤ 48 → 48 + 1 ≤ i120 + ni120 → (∀ j, j < i120 → ¬ ah j < al j) → va_P (dC, dI) vwCl [(qm, .inr (11, [w0, .int fa, .ref lo, .ref hi, .ref nl, .ref nh, .int ch, w7, w8, w9, w10, w11, w12, w13, w14, w15, w16, w17, w18, w19, w20, w21, w22, w23, w24, w25, w26, w27, w28, w29, w30, w31, w32, w33, w34, w35, w36, w37, w38])), (lo, .inl (cI, 48, .inl fl)), (hi, .inl (cI, 48, .inl fh)), (nl, .inl (cI, 48, .inl al)), (nh, .inl (cI, 48, .inl ah))] H → va_D (va_A [(qm, .inr (11, [w0, .int fa, .ref lo, .ref hi, .ref nl, .ref nh, .int ch0, w7, w8, w9, w10, w11, w12, w13, w14, w15, w16, w17, w18, w19, w20, w21, w22, w23, w24, w25, w26, w27, w28, w29, w30, w31, w32, w33, w34, w35, w36, w37, w38])), (lo, .inl (cI, 48, .inl fl)), (hi, .inl (cI, 48, .inl fh)), (nl, .inl (cI, 48, .inl gl)), (nh, .inl (cI, 48, .inl gh))] s.heap.size) [(qm, .inr (11, [w0, .int fa, .ref lo, .ref hi, .ref nl, .ref nh, .int ch, w7, w8, w9, w10, w11, w12, w13, w14, w15, w16, w17, w18, w19, w20, w21, w22, w23, w24, w25, w26, w27, w28, w29, w30, w31, w32, w33, w34, w35, w36, w37, w38])), (lo, .inl (cI, 48, .inl fl)), (hi, .inl (cI, 48, .inl fh)), (nl, .inl (cI, 48, .inl al)), (nh, .inl (cI, 48, .inl ah))] → va_S (va_A [(qm, .inr (11, [w0, .int fa, .ref lo, .ref hi, .ref nl, .ref nh, .int ch0, w7, w8, w9, w10, w11, w12, w13, w14, w15, w16, w17, w18, w19, w20, w21, w22, w23, w24, w25, w26, w27, w28, w29, w30, w31, w32, w33, w34, w35, w36, w37, w38])), (lo, .inl (cI, 48, .inl fl)), (hi, .inl (cI, 48, .inl fh)), (nl, .inl (cI, 48, .inl gl)), (nh, .inl (cI, 48, .inl gh))] s.heap.size) s.heap H locs → lv_has ls 4 [(3, .int (nI i120)), (2, .int 0), (0, .ref qm), (1, .int dd)] → W p l e ({ frames := 3, cells := 0, slots := 0, locals := 90 } : Room) s m ([.ref qm, .int dd] : List Value).toArray below meth c0 H locs 0 0 Q (F0 m 120 ls []) := by
          intro ni120
          induction ni120 with
          | zero =>
            intro i120  H locs ls h1 h2
            exact absurd h2 (by omega)
          | succ ni120 ihi120 =>
            intro i120  H locs ls hlei120 hni120 hall hP hD hS hl
            refine lv_iload_n hx hb dX11_narrowed_120 rfl (lv_at hl 0 rfl) ?_
            refine lv_bipush (v := 48) hx hb dX11_narrowed_121 (by decide) ?_
            refine lv_icmp_ge (tgt := 150) hx hb dX11_narrowed_123 (by decide) (fun c2 => ?_) (fun c2 => ?_)
            · skip
              have hei120 : i120 = 48 := (Nat.lt_or_ge i120 48).elim (fun q => absurd c2 (show ¬ nI 48 ≤ nI i120 from nI_ge q (by omega))) (fun q => by omega)
              have hallN : ∀ j, j < 48 → ¬ ah j < al j := (by rw [← hei120]; exact hall)
              refine lv_iconst (v := 0) hx hb dX11_narrowed_150 (by decide) ?_
              refine lv_istore_n (lv' := [(3, .int 0), (2, .int 0), (0, .ref qm), (1, .int dd)]) hx hb dX11_narrowed_151 rfl hl (by decide) rfl (fun ls hl => ?_)
              have hP := va_P_cg hP 1 (fa_fill al fl 0) rfl (fun j _ => (congrFun (fa_fill_0 al fl) j).symm)
              have hD := va_D_cg hD 1 (fa_fill al fl 0) rfl
              have hP : va_P (dC, dI) vwCl [(qm, .inr (11, [w0, .int fa, .ref lo, .ref hi, .ref nl, .ref nh, .int ch, w7, w8, w9, w10, w11, w12, w13, w14, w15, w16, w17, w18, w19, w20, w21, w22, w23, w24, w25, w26, w27, w28, w29, w30, w31, w32, w33, w34, w35, w36, w37, w38])), (lo, .inl (cI, 48, .inl (fa_fill al fl 0))), (hi, .inl (cI, 48, .inl fh)), (nl, .inl (cI, 48, .inl al)), (nh, .inl (cI, 48, .inl ah))] H := hP
              have hD : va_D _ [(qm, .inr (11, [w0, .int fa, .ref lo, .ref hi, .ref nl, .ref nh, .int ch, w7, w8, w9, w10, w11, w12, w13, w14, w15, w16, w17, w18, w19, w20, w21, w22, w23, w24, w25, w26, w27, w28, w29, w30, w31, w32, w33, w34, w35, w36, w37, w38])), (lo, .inl (cI, 48, .inl (fa_fill al fl 0))), (hi, .inl (cI, 48, .inl fh)), (nl, .inl (cI, 48, .inl al)), (nh, .inl (cI, 48, .inl ah))] := hD
              have hP := va_P_cg hP 2 (fa_fill ah fh 0) rfl (fun j _ => (congrFun (fa_fill_0 ah fh) j).symm)
              have hD := va_D_cg hD 2 (fa_fill ah fh 0) rfl
              have hP : va_P (dC, dI) vwCl [(qm, .inr (11, [w0, .int fa, .ref lo, .ref hi, .ref nl, .ref nh, .int ch, w7, w8, w9, w10, w11, w12, w13, w14, w15, w16, w17, w18, w19, w20, w21, w22, w23, w24, w25, w26, w27, w28, w29, w30, w31, w32, w33, w34, w35, w36, w37, w38])), (lo, .inl (cI, 48, .inl (fa_fill al fl 0))), (hi, .inl (cI, 48, .inl (fa_fill ah fh 0))), (nl, .inl (cI, 48, .inl al)), (nh, .inl (cI, 48, .inl ah))] H := hP
              have hD : va_D _ [(qm, .inr (11, [w0, .int fa, .ref lo, .ref hi, .ref nl, .ref nh, .int ch, w7, w8, w9, w10, w11, w12, w13, w14, w15, w16, w17, w18, w19, w20, w21, w22, w23, w24, w25, w26, w27, w28, w29, w30, w31, w32, w33, w34, w35, w36, w37, w38])), (lo, .inl (cI, 48, .inl (fa_fill al fl 0))), (hi, .inl (cI, 48, .inl (fa_fill ah fh 0))), (nl, .inl (cI, 48, .inl al)), (nh, .inl (cI, 48, .inl ah))] := hD
              have loop152 : ∀ (ni152 i152 : Nat) (H : Heap) (locs : List Loc) (ls : Array Slot), i152 ≤ 48 → 48 + 1 ≤ i152 + ni152 → va_P (dC, dI) vwCl [(qm, .inr (11, [w0, .int fa, .ref lo, .ref hi, .ref nl, .ref nh, .int ch, w7, w8, w9, w10, w11, w12, w13, w14, w15, w16, w17, w18, w19, w20, w21, w22, w23, w24, w25, w26, w27, w28, w29, w30, w31, w32, w33, w34, w35, w36, w37, w38])), (lo, .inl (cI, 48, .inl (fa_fill al fl i152))), (hi, .inl (cI, 48, .inl (fa_fill ah fh i152))), (nl, .inl (cI, 48, .inl al)), (nh, .inl (cI, 48, .inl ah))] H → va_D (va_A [(qm, .inr (11, [w0, .int fa, .ref lo, .ref hi, .ref nl, .ref nh, .int ch0, w7, w8, w9, w10, w11, w12, w13, w14, w15, w16, w17, w18, w19, w20, w21, w22, w23, w24, w25, w26, w27, w28, w29, w30, w31, w32, w33, w34, w35, w36, w37, w38])), (lo, .inl (cI, 48, .inl fl)), (hi, .inl (cI, 48, .inl fh)), (nl, .inl (cI, 48, .inl gl)), (nh, .inl (cI, 48, .inl gh))] s.heap.size) [(qm, .inr (11, [w0, .int fa, .ref lo, .ref hi, .ref nl, .ref nh, .int ch, w7, w8, w9, w10, w11, w12, w13, w14, w15, w16, w17, w18, w19, w20, w21, w22, w23, w24, w25, w26, w27, w28, w29, w30, w31, w32, w33, w34, w35, w36, w37, w38])), (lo, .inl (cI, 48, .inl (fa_fill al fl i152))), (hi, .inl (cI, 48, .inl (fa_fill ah fh i152))), (nl, .inl (cI, 48, .inl al)), (nh, .inl (cI, 48, .inl ah))] → va_S (va_A [(qm, .inr (11, [w0, .int fa, .ref lo, .ref hi, .ref nl, .ref nh, .int ch0, w7, w8, w9, w10, w11, w12, w13, w14, w15, w16, w17, w18, w19, w20, w21, w22, w23, w24, w25, w26, w27, w28, w29, w30, w31, w32, w33, w34, w35, w36, w37, w38])), (lo, .inl (cI, 48, .inl fl)), (hi, .inl (cI, 48, .inl fh)), (nl, .inl (cI, 48, .inl gl)), (nh, .inl (cI, 48, .inl gh))] s.heap.size) s.heap H locs → lv_has ls 4 [(3, .int (nI i152)), (2, .int (nI (fa_cnt (chg fl fh al ah) i152))), (0, .ref qm), (1, .int dd)] → W p l e ({ frames := 3, cells := 0, slots := 0, locals := 90 } : Room) s m ([.ref qm, .int dd] : List Value).toArray below meth c0 H locs 0 0 Q (F0 m 152 ls []) := by
                intro ni152
                induction ni152 with
                | zero =>
                  intro i152  H locs ls h1 h2
                  exact absurd h2 (by omega)
                | succ ni152 ihi152 =>
                  intro i152  H locs ls hlei152 hni152  hP hD hS hl
                  refine lv_iload_n hx hb dX11_narrowed_152 rfl (lv_at hl 0 rfl) ?_
                  refine lv_bipush (v := 48) hx hb dX11_narrowed_153 (by decide) ?_
                  refine lv_icmp_ge (tgt := 226) hx hb dX11_narrowed_155 (by decide) (fun c3 => ?_) (fun c3 => ?_)
                  · skip
                    have hei152 : i152 = 48 := (Nat.lt_or_ge i152 48).elim (fun q => absurd c3 (show ¬ nI 48 ≤ nI i152 from nI_ge q (by omega))) (fun q => by omega)
                    have hP := va_P_cg hP 1 al rfl (fun j hj => fa_fill_in (by omega))
                    have hD := va_D_cg hD 1 al rfl
                    have hP : va_P (dC, dI) vwCl [(qm, .inr (11, [w0, .int fa, .ref lo, .ref hi, .ref nl, .ref nh, .int ch, w7, w8, w9, w10, w11, w12, w13, w14, w15, w16, w17, w18, w19, w20, w21, w22, w23, w24, w25, w26, w27, w28, w29, w30, w31, w32, w33, w34, w35, w36, w37, w38])), (lo, .inl (cI, 48, .inl al)), (hi, .inl (cI, 48, .inl (fa_fill ah fh i152))), (nl, .inl (cI, 48, .inl al)), (nh, .inl (cI, 48, .inl ah))] H := hP
                    have hD : va_D _ [(qm, .inr (11, [w0, .int fa, .ref lo, .ref hi, .ref nl, .ref nh, .int ch, w7, w8, w9, w10, w11, w12, w13, w14, w15, w16, w17, w18, w19, w20, w21, w22, w23, w24, w25, w26, w27, w28, w29, w30, w31, w32, w33, w34, w35, w36, w37, w38])), (lo, .inl (cI, 48, .inl al)), (hi, .inl (cI, 48, .inl (fa_fill ah fh i152))), (nl, .inl (cI, 48, .inl al)), (nh, .inl (cI, 48, .inl ah))] := hD
                    have hP := va_P_cg hP 2 ah rfl (fun j hj => fa_fill_in (by omega))
                    have hD := va_D_cg hD 2 ah rfl
                    have hP : va_P (dC, dI) vwCl [(qm, .inr (11, [w0, .int fa, .ref lo, .ref hi, .ref nl, .ref nh, .int ch, w7, w8, w9, w10, w11, w12, w13, w14, w15, w16, w17, w18, w19, w20, w21, w22, w23, w24, w25, w26, w27, w28, w29, w30, w31, w32, w33, w34, w35, w36, w37, w38])), (lo, .inl (cI, 48, .inl al)), (hi, .inl (cI, 48, .inl ah)), (nl, .inl (cI, 48, .inl al)), (nh, .inl (cI, 48, .inl ah))] H := hP
                    have hD : va_D _ [(qm, .inr (11, [w0, .int fa, .ref lo, .ref hi, .ref nl, .ref nh, .int ch, w7, w8, w9, w10, w11, w12, w13, w14, w15, w16, w17, w18, w19, w20, w21, w22, w23, w24, w25, w26, w27, w28, w29, w30, w31, w32, w33, w34, w35, w36, w37, w38])), (lo, .inl (cI, 48, .inl al)), (hi, .inl (cI, 48, .inl ah)), (nl, .inl (cI, 48, .inl al)), (nh, .inl (cI, 48, .inl ah))] := hD
                    refine lv_aload_n hx hb dX11_narrowed_226 rfl (lv_at hl 2 rfl) ?_
                    refine lv_iload_n hx hb dX11_narrowed_227 rfl (lv_at hl 3 rfl) ?_
                    refine va_put (D := (dC, dI)) (ci := 11) (v := .int dd) (ty := .int) (C := RX11) (T := TX11) (N := 39) hx hb hts hiX11 tyX11 tyX11_ok nmX11 hown hK hP hD hS 0 rfl rfl 1 (by decide) (hts (.fieldLink RX11 93 "TributePitchesModel" "far" "I") (by decide +kernel)) (fun _ h9 => h9) rfl (by decide +kernel) rfl rfl (Nat.le_of_ble_eq_true rfl) dX11_narrowed_228 (fun H locs hP hD hS => ?_)
                    have hP : va_P (dC, dI) vwCl [(qm, .inr (11, [w0, .int dd, .ref lo, .ref hi, .ref nl, .ref nh, .int ch, w7, w8, w9, w10, w11, w12, w13, w14, w15, w16, w17, w18, w19, w20, w21, w22, w23, w24, w25, w26, w27, w28, w29, w30, w31, w32, w33, w34, w35, w36, w37, w38])), (lo, .inl (cI, 48, .inl al)), (hi, .inl (cI, 48, .inl ah)), (nl, .inl (cI, 48, .inl al)), (nh, .inl (cI, 48, .inl ah))] H := hP
                    have hD : va_D _ [(qm, .inr (11, [w0, .int dd, .ref lo, .ref hi, .ref nl, .ref nh, .int ch, w7, w8, w9, w10, w11, w12, w13, w14, w15, w16, w17, w18, w19, w20, w21, w22, w23, w24, w25, w26, w27, w28, w29, w30, w31, w32, w33, w34, w35, w36, w37, w38])), (lo, .inl (cI, 48, .inl al)), (hi, .inl (cI, 48, .inl ah)), (nl, .inl (cI, 48, .inl al)), (nh, .inl (cI, 48, .inl ah))] := hD
                    refine lv_iload_n hx hb dX11_narrowed_231 rfl (lv_at hl 1 rfl) ?_
                    subst hQ
                    have hP9 := hP.sub (ws' := [(qm, .inr (11, [w0, .int dd, .ref lo, .ref hi, .ref nl, .ref nh, .int ch, w7, w8, w9, w10, w11, w12, w13, w14, w15, w16, w17, w18, w19, w20, w21, w22, w23, w24, w25, w26, w27, w28, w29, w30, w31, w32, w33, w34, w35, w36, w37, w38])), (lo, .inl (cI, 48, .inl al)), (hi, .inl (cI, 48, .inl ah)), (nl, .inl (cI, 48, .inl al)), (nh, .inl (cI, 48, .inl ah))]) [0, 1, 2, 3, 4] rfl
                    have hD9 := hD.sub (ws' := [(qm, .inr (11, [w0, .int dd, .ref lo, .ref hi, .ref nl, .ref nh, .int ch, w7, w8, w9, w10, w11, w12, w13, w14, w15, w16, w17, w18, w19, w20, w21, w22, w23, w24, w25, w26, w27, w28, w29, w30, w31, w32, w33, w34, w35, w36, w37, w38])), (lo, .inl (cI, 48, .inl al)), (hi, .inl (cI, 48, .inl ah)), (nl, .inl (cI, 48, .inl al)), (nh, .inl (cI, 48, .inl ah))]) [0, 1, 2, 3, 4] (by decide) rfl
                    have hK9 := hK
                    exact W.iret (v := nI (fa_cnt (chg fl fh al ah) i152)) hx hb hr (fun t ht hW => ⟨⟨nI (fa_cnt (chg fl fh al ah) i152), (al, ah, al, ah, ch, dd), rfl, ⟨⟨⟨hj.2.1, hj.2.2⟩, hj.1⟩, Or.inr ⟨by rw [hei152], hallN, hcl hc0, rfl, rfl, rfl⟩⟩, by rw [ht]; exact hP9, va_K.moved hW.alike hK9, hD9⟩, hS.F ht⟩) hS.2.2 dX11_narrowed_232
                  · skip
                    have hlti152 : i152 < 48 := (Nat.lt_or_ge i152 48).elim id (fun q => absurd (show nI 48 ≤ nI i152 from nI_le q (by omega)) c3)
                    refine lv_iload_n hx hb dX11_narrowed_158 rfl (lv_at hl 1 rfl) ?_
                    refine lv_aload_n hx hb dX11_narrowed_159 rfl (lv_at hl 2 rfl) ?_
                    refine va_get (D := (dC, dI)) (ci := 11) (v := .ref nl) (C := RX11) (T := TX11) (N := 39) hx hb hts hiX11 hown hK hP 0 rfl rfl 4 (by decide) (hts (.fieldLink RX11 16 "TributePitchesModel" "newLow" "[I") (by decide +kernel)) (fun _ h9 => h9) rfl dX11_narrowed_160 ?_
                    refine lv_iload_n hx hb dX11_narrowed_163 rfl (lv_at hl 0 rfl) ?_
                    refine va_iald hx hb hK hP 3 0 rfl rfl (vp_in_nI (by omega) (by omega)) dX11_narrowed_164 ?_
                    refine lv_topi (fun v4 ev4 => ?_)
                    have ev4 : v4 = al i152 := by rw [ev4]; rw [nI_clamp (by omega)]
                    subst ev4
                    refine lv_aload_n hx hb dX11_narrowed_165 rfl (lv_at hl 2 rfl) ?_
                    refine va_get (D := (dC, dI)) (ci := 11) (v := .ref lo) (C := RX11) (T := TX11) (N := 39) hx hb hts hiX11 hown hK hP 0 rfl rfl 2 (by decide) (hts (.fieldLink RX11 7 "TributePitchesModel" "low" "[I") (by decide +kernel)) (fun _ h9 => h9) rfl dX11_narrowed_166 ?_
                    refine lv_iload_n hx hb dX11_narrowed_169 rfl (lv_at hl 0 rfl) ?_
                    refine va_iald hx hb hK hP 1 0 rfl rfl (vp_in_nI (by omega) (by omega)) dX11_narrowed_170 ?_
                    refine lv_topi (fun v5 ev5 => ?_)
                    have ev5 : v5 = fl i152 := by rw [ev5]; rw [nI_clamp (by omega)]; exact fa_fill_out (Nat.le_refl _)
                    subst ev5
                    refine lv_icmp_ne (tgt := 189) hx hb dX11_narrowed_171 (by decide) (fun c6 => ?_) (fun c6 => ?_)
                    · skip
                      refine lv_iconst (v := 1) hx hb dX11_narrowed_189 (by decide) ?_
                      refine lv_goto (tgt := 194) hx hb dX11_narrowed_190 (by decide) ?_
                      refine lv_iadd hx hb dX11_narrowed_194 ?_
                      refine lv_topi (fun v194 ev194 => ?_)
                      have ev194 : v194 = nI (fa_cnt (chg fl fh al ah) (i152 + 1)) := by rw [ev194]; rw [fa_cnt_yes (by simp [chg, c3, c6])]; exact nI_1 _
                      subst ev194
                      refine lv_istore_n (lv' := [(2, .int (nI (fa_cnt (chg fl fh al ah) (i152 + 1)))), (3, .int (nI i152)), (0, .ref qm), (1, .int dd)]) hx hb dX11_narrowed_195 rfl hl (by decide) rfl (fun ls hl => ?_)
                      refine lv_aload_n hx hb dX11_narrowed_196 rfl (lv_at hl 2 rfl) ?_
                      refine va_get (D := (dC, dI)) (ci := 11) (v := .ref lo) (C := RX11) (T := TX11) (N := 39) hx hb hts hiX11 hown hK hP 0 rfl rfl 2 (by decide) (hts (.fieldLink RX11 7 "TributePitchesModel" "low" "[I") (by decide +kernel)) (fun _ h9 => h9) rfl dX11_narrowed_197 ?_
                      refine lv_iload_n hx hb dX11_narrowed_200 rfl (lv_at hl 1 rfl) ?_
                      refine lv_aload_n hx hb dX11_narrowed_201 rfl (lv_at hl 2 rfl) ?_
                      refine va_get (D := (dC, dI)) (ci := 11) (v := .ref nl) (C := RX11) (T := TX11) (N := 39) hx hb hts hiX11 hown hK hP 0 rfl rfl 4 (by decide) (hts (.fieldLink RX11 16 "TributePitchesModel" "newLow" "[I") (by decide +kernel)) (fun _ h9 => h9) rfl dX11_narrowed_202 ?_
                      refine lv_iload_n hx hb dX11_narrowed_205 rfl (lv_at hl 1 rfl) ?_
                      refine va_iald hx hb hK hP 3 0 rfl rfl (vp_in_nI (by omega) (by omega)) dX11_narrowed_206 ?_
                      refine lv_topi (fun v7 ev7 => ?_)
                      have ev7 : v7 = al i152 := by rw [ev7]; rw [nI_clamp (by omega)]
                      subst ev7
                      refine va_iast hx hb hK hP hD hS 1 0 rfl rfl (vp_in_nI (by omega) (by omega)) dX11_narrowed_207 (fun H locs hP hD hS => ?_)
                      have hP : va_P (dC, dI) vwCl [(qm, .inr (11, [w0, .int fa, .ref lo, .ref hi, .ref nl, .ref nh, .int ch, w7, w8, w9, w10, w11, w12, w13, w14, w15, w16, w17, w18, w19, w20, w21, w22, w23, w24, w25, w26, w27, w28, w29, w30, w31, w32, w33, w34, w35, w36, w37, w38])), (lo, .inl (cI, 48, .inl (upd (fa_fill al fl i152) (nI i152).toNatClampNeg (al i152)))), (hi, .inl (cI, 48, .inl (fa_fill ah fh i152))), (nl, .inl (cI, 48, .inl al)), (nh, .inl (cI, 48, .inl ah))] H := hP
                      have hD : va_D _ [(qm, .inr (11, [w0, .int fa, .ref lo, .ref hi, .ref nl, .ref nh, .int ch, w7, w8, w9, w10, w11, w12, w13, w14, w15, w16, w17, w18, w19, w20, w21, w22, w23, w24, w25, w26, w27, w28, w29, w30, w31, w32, w33, w34, w35, w36, w37, w38])), (lo, .inl (cI, 48, .inl (upd (fa_fill al fl i152) (nI i152).toNatClampNeg (al i152)))), (hi, .inl (cI, 48, .inl (fa_fill ah fh i152))), (nl, .inl (cI, 48, .inl al)), (nh, .inl (cI, 48, .inl ah))] := hD
                      have hP := va_P_cg hP 1 (fa_fill al fl (i152 + 1)) rfl (fun j _ => by rw [nI_clamp (by omega)]; exact congrFun (fa_fill_succ al fl i152) j)
                      have hD := va_D_cg hD 1 (fa_fill al fl (i152 + 1)) rfl
                      have hP : va_P (dC, dI) vwCl [(qm, .inr (11, [w0, .int fa, .ref lo, .ref hi, .ref nl, .ref nh, .int ch, w7, w8, w9, w10, w11, w12, w13, w14, w15, w16, w17, w18, w19, w20, w21, w22, w23, w24, w25, w26, w27, w28, w29, w30, w31, w32, w33, w34, w35, w36, w37, w38])), (lo, .inl (cI, 48, .inl (fa_fill al fl (i152 + 1)))), (hi, .inl (cI, 48, .inl (fa_fill ah fh i152))), (nl, .inl (cI, 48, .inl al)), (nh, .inl (cI, 48, .inl ah))] H := hP
                      have hD : va_D _ [(qm, .inr (11, [w0, .int fa, .ref lo, .ref hi, .ref nl, .ref nh, .int ch, w7, w8, w9, w10, w11, w12, w13, w14, w15, w16, w17, w18, w19, w20, w21, w22, w23, w24, w25, w26, w27, w28, w29, w30, w31, w32, w33, w34, w35, w36, w37, w38])), (lo, .inl (cI, 48, .inl (fa_fill al fl (i152 + 1)))), (hi, .inl (cI, 48, .inl (fa_fill ah fh i152))), (nl, .inl (cI, 48, .inl al)), (nh, .inl (cI, 48, .inl ah))] := hD
                      refine lv_aload_n hx hb dX11_narrowed_208 rfl (lv_at hl 2 rfl) ?_
                      refine va_get (D := (dC, dI)) (ci := 11) (v := .ref hi) (C := RX11) (T := TX11) (N := 39) hx hb hts hiX11 hown hK hP 0 rfl rfl 3 (by decide) (hts (.fieldLink RX11 13 "TributePitchesModel" "high" "[I") (by decide +kernel)) (fun _ h9 => h9) rfl dX11_narrowed_209 ?_
                      refine lv_iload_n hx hb dX11_narrowed_212 rfl (lv_at hl 1 rfl) ?_
                      refine lv_aload_n hx hb dX11_narrowed_213 rfl (lv_at hl 2 rfl) ?_
                      refine va_get (D := (dC, dI)) (ci := 11) (v := .ref nh) (C := RX11) (T := TX11) (N := 39) hx hb hts hiX11 hown hK hP 0 rfl rfl 5 (by decide) (hts (.fieldLink RX11 19 "TributePitchesModel" "newHigh" "[I") (by decide +kernel)) (fun _ h9 => h9) rfl dX11_narrowed_214 ?_
                      refine lv_iload_n hx hb dX11_narrowed_217 rfl (lv_at hl 1 rfl) ?_
                      refine va_iald hx hb hK hP 4 0 rfl rfl (vp_in_nI (by omega) (by omega)) dX11_narrowed_218 ?_
                      refine lv_topi (fun v8 ev8 => ?_)
                      have ev8 : v8 = ah i152 := by rw [ev8]; rw [nI_clamp (by omega)]
                      subst ev8
                      refine va_iast hx hb hK hP hD hS 2 0 rfl rfl (vp_in_nI (by omega) (by omega)) dX11_narrowed_219 (fun H locs hP hD hS => ?_)
                      have hP : va_P (dC, dI) vwCl [(qm, .inr (11, [w0, .int fa, .ref lo, .ref hi, .ref nl, .ref nh, .int ch, w7, w8, w9, w10, w11, w12, w13, w14, w15, w16, w17, w18, w19, w20, w21, w22, w23, w24, w25, w26, w27, w28, w29, w30, w31, w32, w33, w34, w35, w36, w37, w38])), (lo, .inl (cI, 48, .inl (fa_fill al fl (i152 + 1)))), (hi, .inl (cI, 48, .inl (upd (fa_fill ah fh i152) (nI i152).toNatClampNeg (ah i152)))), (nl, .inl (cI, 48, .inl al)), (nh, .inl (cI, 48, .inl ah))] H := hP
                      have hD : va_D _ [(qm, .inr (11, [w0, .int fa, .ref lo, .ref hi, .ref nl, .ref nh, .int ch, w7, w8, w9, w10, w11, w12, w13, w14, w15, w16, w17, w18, w19, w20, w21, w22, w23, w24, w25, w26, w27, w28, w29, w30, w31, w32, w33, w34, w35, w36, w37, w38])), (lo, .inl (cI, 48, .inl (fa_fill al fl (i152 + 1)))), (hi, .inl (cI, 48, .inl (upd (fa_fill ah fh i152) (nI i152).toNatClampNeg (ah i152)))), (nl, .inl (cI, 48, .inl al)), (nh, .inl (cI, 48, .inl ah))] := hD
                      have hP := va_P_cg hP 2 (fa_fill ah fh (i152 + 1)) rfl (fun j _ => by rw [nI_clamp (by omega)]; exact congrFun (fa_fill_succ ah fh i152) j)
                      have hD := va_D_cg hD 2 (fa_fill ah fh (i152 + 1)) rfl
                      have hP : va_P (dC, dI) vwCl [(qm, .inr (11, [w0, .int fa, .ref lo, .ref hi, .ref nl, .ref nh, .int ch, w7, w8, w9, w10, w11, w12, w13, w14, w15, w16, w17, w18, w19, w20, w21, w22, w23, w24, w25, w26, w27, w28, w29, w30, w31, w32, w33, w34, w35, w36, w37, w38])), (lo, .inl (cI, 48, .inl (fa_fill al fl (i152 + 1)))), (hi, .inl (cI, 48, .inl (fa_fill ah fh (i152 + 1)))), (nl, .inl (cI, 48, .inl al)), (nh, .inl (cI, 48, .inl ah))] H := hP
                      have hD : va_D _ [(qm, .inr (11, [w0, .int fa, .ref lo, .ref hi, .ref nl, .ref nh, .int ch, w7, w8, w9, w10, w11, w12, w13, w14, w15, w16, w17, w18, w19, w20, w21, w22, w23, w24, w25, w26, w27, w28, w29, w30, w31, w32, w33, w34, w35, w36, w37, w38])), (lo, .inl (cI, 48, .inl (fa_fill al fl (i152 + 1)))), (hi, .inl (cI, 48, .inl (fa_fill ah fh (i152 + 1)))), (nl, .inl (cI, 48, .inl al)), (nh, .inl (cI, 48, .inl ah))] := hD
                      refine lv_iinc (v := nI (i152 + 1)) (lv' := [(3, .int (nI (i152 + 1))), (2, .int (nI (fa_cnt (chg fl fh al ah) (i152 + 1)))), (0, .ref qm), (1, .int dd)]) hx hb dX11_narrowed_220 hl (k := 1) rfl (nI_1 i152) (by decide) rfl (fun ls hl => ?_)
                      refine lv_goto (tgt := 152) hx hb dX11_narrowed_223 (by decide) ?_
                      exact ihi152 (i152 + 1)  _ _ ls (by omega) (by omega)  (hP.sub [0, 1, 2, 3, 4] rfl) (hD.sub [0, 1, 2, 3, 4] (by decide) rfl) hS (lv_sub hl [0, 1, 2, 3] rfl)
                    · skip
                      refine lv_aload_n hx hb dX11_narrowed_174 rfl (lv_at hl 2 rfl) ?_
                      refine va_get (D := (dC, dI)) (ci := 11) (v := .ref nh) (C := RX11) (T := TX11) (N := 39) hx hb hts hiX11 hown hK hP 0 rfl rfl 5 (by decide) (hts (.fieldLink RX11 19 "TributePitchesModel" "newHigh" "[I") (by decide +kernel)) (fun _ h9 => h9) rfl dX11_narrowed_175 ?_
                      refine lv_iload_n hx hb dX11_narrowed_178 rfl (lv_at hl 0 rfl) ?_
                      refine va_iald hx hb hK hP 4 0 rfl rfl (vp_in_nI (by omega) (by omega)) dX11_narrowed_179 ?_
                      refine lv_topi (fun v9 ev9 => ?_)
                      have ev9 : v9 = ah i152 := by rw [ev9]; rw [nI_clamp (by omega)]
                      subst ev9
                      refine lv_aload_n hx hb dX11_narrowed_180 rfl (lv_at hl 2 rfl) ?_
                      refine va_get (D := (dC, dI)) (ci := 11) (v := .ref hi) (C := RX11) (T := TX11) (N := 39) hx hb hts hiX11 hown hK hP 0 rfl rfl 3 (by decide) (hts (.fieldLink RX11 13 "TributePitchesModel" "high" "[I") (by decide +kernel)) (fun _ h9 => h9) rfl dX11_narrowed_181 ?_
                      refine lv_iload_n hx hb dX11_narrowed_184 rfl (lv_at hl 0 rfl) ?_
                      refine va_iald hx hb hK hP 2 0 rfl rfl (vp_in_nI (by omega) (by omega)) dX11_narrowed_185 ?_
                      refine lv_topi (fun v10 ev10 => ?_)
                      have ev10 : v10 = fh i152 := by rw [ev10]; rw [nI_clamp (by omega)]; exact fa_fill_out (Nat.le_refl _)
                      subst ev10
                      refine lv_icmp_eq (tgt := 193) hx hb dX11_narrowed_186 (by decide) (fun c11 => ?_) (fun c11 => ?_)
                      · skip
                        refine lv_iconst (v := 0) hx hb dX11_narrowed_193 (by decide) ?_
                        refine lv_iadd hx hb dX11_narrowed_194 ?_
                        refine lv_topi (fun v194 ev194 => ?_)
                        have ev194 : v194 = nI (fa_cnt (chg fl fh al ah) (i152 + 1)) := by rw [ev194]; rw [fa_cnt_no (by simp [chg, c6, c11])]; simp
                        subst ev194
                        refine lv_istore_n (lv' := [(2, .int (nI (fa_cnt (chg fl fh al ah) (i152 + 1)))), (3, .int (nI i152)), (0, .ref qm), (1, .int dd)]) hx hb dX11_narrowed_195 rfl hl (by decide) rfl (fun ls hl => ?_)
                        refine lv_aload_n hx hb dX11_narrowed_196 rfl (lv_at hl 2 rfl) ?_
                        refine va_get (D := (dC, dI)) (ci := 11) (v := .ref lo) (C := RX11) (T := TX11) (N := 39) hx hb hts hiX11 hown hK hP 0 rfl rfl 2 (by decide) (hts (.fieldLink RX11 7 "TributePitchesModel" "low" "[I") (by decide +kernel)) (fun _ h9 => h9) rfl dX11_narrowed_197 ?_
                        refine lv_iload_n hx hb dX11_narrowed_200 rfl (lv_at hl 1 rfl) ?_
                        refine lv_aload_n hx hb dX11_narrowed_201 rfl (lv_at hl 2 rfl) ?_
                        refine va_get (D := (dC, dI)) (ci := 11) (v := .ref nl) (C := RX11) (T := TX11) (N := 39) hx hb hts hiX11 hown hK hP 0 rfl rfl 4 (by decide) (hts (.fieldLink RX11 16 "TributePitchesModel" "newLow" "[I") (by decide +kernel)) (fun _ h9 => h9) rfl dX11_narrowed_202 ?_
                        refine lv_iload_n hx hb dX11_narrowed_205 rfl (lv_at hl 1 rfl) ?_
                        refine va_iald hx hb hK hP 3 0 rfl rfl (vp_in_nI (by omega) (by omega)) dX11_narrowed_206 ?_
                        refine lv_topi (fun v12 ev12 => ?_)
                        have ev12 : v12 = al i152 := by rw [ev12]; rw [nI_clamp (by omega)]
                        subst ev12
                        refine va_iast hx hb hK hP hD hS 1 0 rfl rfl (vp_in_nI (by omega) (by omega)) dX11_narrowed_207 (fun H locs hP hD hS => ?_)
                        have hP : va_P (dC, dI) vwCl [(qm, .inr (11, [w0, .int fa, .ref lo, .ref hi, .ref nl, .ref nh, .int ch, w7, w8, w9, w10, w11, w12, w13, w14, w15, w16, w17, w18, w19, w20, w21, w22, w23, w24, w25, w26, w27, w28, w29, w30, w31, w32, w33, w34, w35, w36, w37, w38])), (lo, .inl (cI, 48, .inl (upd (fa_fill al fl i152) (nI i152).toNatClampNeg (al i152)))), (hi, .inl (cI, 48, .inl (fa_fill ah fh i152))), (nl, .inl (cI, 48, .inl al)), (nh, .inl (cI, 48, .inl ah))] H := hP
                        have hD : va_D _ [(qm, .inr (11, [w0, .int fa, .ref lo, .ref hi, .ref nl, .ref nh, .int ch, w7, w8, w9, w10, w11, w12, w13, w14, w15, w16, w17, w18, w19, w20, w21, w22, w23, w24, w25, w26, w27, w28, w29, w30, w31, w32, w33, w34, w35, w36, w37, w38])), (lo, .inl (cI, 48, .inl (upd (fa_fill al fl i152) (nI i152).toNatClampNeg (al i152)))), (hi, .inl (cI, 48, .inl (fa_fill ah fh i152))), (nl, .inl (cI, 48, .inl al)), (nh, .inl (cI, 48, .inl ah))] := hD
                        have hP := va_P_cg hP 1 (fa_fill al fl (i152 + 1)) rfl (fun j _ => by rw [nI_clamp (by omega)]; exact congrFun (fa_fill_succ al fl i152) j)
                        have hD := va_D_cg hD 1 (fa_fill al fl (i152 + 1)) rfl
                        have hP : va_P (dC, dI) vwCl [(qm, .inr (11, [w0, .int fa, .ref lo, .ref hi, .ref nl, .ref nh, .int ch, w7, w8, w9, w10, w11, w12, w13, w14, w15, w16, w17, w18, w19, w20, w21, w22, w23, w24, w25, w26, w27, w28, w29, w30, w31, w32, w33, w34, w35, w36, w37, w38])), (lo, .inl (cI, 48, .inl (fa_fill al fl (i152 + 1)))), (hi, .inl (cI, 48, .inl (fa_fill ah fh i152))), (nl, .inl (cI, 48, .inl al)), (nh, .inl (cI, 48, .inl ah))] H := hP
                        have hD : va_D _ [(qm, .inr (11, [w0, .int fa, .ref lo, .ref hi, .ref nl, .ref nh, .int ch, w7, w8, w9, w10, w11, w12, w13, w14, w15, w16, w17, w18, w19, w20, w21, w22, w23, w24, w25, w26, w27, w28, w29, w30, w31, w32, w33, w34, w35, w36, w37, w38])), (lo, .inl (cI, 48, .inl (fa_fill al fl (i152 + 1)))), (hi, .inl (cI, 48, .inl (fa_fill ah fh i152))), (nl, .inl (cI, 48, .inl al)), (nh, .inl (cI, 48, .inl ah))] := hD
                        refine lv_aload_n hx hb dX11_narrowed_208 rfl (lv_at hl 2 rfl) ?_
                        refine va_get (D := (dC, dI)) (ci := 11) (v := .ref hi) (C := RX11) (T := TX11) (N := 39) hx hb hts hiX11 hown hK hP 0 rfl rfl 3 (by decide) (hts (.fieldLink RX11 13 "TributePitchesModel" "high" "[I") (by decide +kernel)) (fun _ h9 => h9) rfl dX11_narrowed_209 ?_
                        refine lv_iload_n hx hb dX11_narrowed_212 rfl (lv_at hl 1 rfl) ?_
                        refine lv_aload_n hx hb dX11_narrowed_213 rfl (lv_at hl 2 rfl) ?_
                        refine va_get (D := (dC, dI)) (ci := 11) (v := .ref nh) (C := RX11) (T := TX11) (N := 39) hx hb hts hiX11 hown hK hP 0 rfl rfl 5 (by decide) (hts (.fieldLink RX11 19 "TributePitchesModel" "newHigh" "[I") (by decide +kernel)) (fun _ h9 => h9) rfl dX11_narrowed_214 ?_
                        refine lv_iload_n hx hb dX11_narrowed_217 rfl (lv_at hl 1 rfl) ?_
                        refine va_iald hx hb hK hP 4 0 rfl rfl (vp_in_nI (by omega) (by omega)) dX11_narrowed_218 ?_
                        refine lv_topi (fun v13 ev13 => ?_)
                        have ev13 : v13 = ah i152 := by rw [ev13]; rw [nI_clamp (by omega)]
                        subst ev13
                        refine va_iast hx hb hK hP hD hS 2 0 rfl rfl (vp_in_nI (by omega) (by omega)) dX11_narrowed_219 (fun H locs hP hD hS => ?_)
                        have hP : va_P (dC, dI) vwCl [(qm, .inr (11, [w0, .int fa, .ref lo, .ref hi, .ref nl, .ref nh, .int ch, w7, w8, w9, w10, w11, w12, w13, w14, w15, w16, w17, w18, w19, w20, w21, w22, w23, w24, w25, w26, w27, w28, w29, w30, w31, w32, w33, w34, w35, w36, w37, w38])), (lo, .inl (cI, 48, .inl (fa_fill al fl (i152 + 1)))), (hi, .inl (cI, 48, .inl (upd (fa_fill ah fh i152) (nI i152).toNatClampNeg (ah i152)))), (nl, .inl (cI, 48, .inl al)), (nh, .inl (cI, 48, .inl ah))] H := hP
                        have hD : va_D _ [(qm, .inr (11, [w0, .int fa, .ref lo, .ref hi, .ref nl, .ref nh, .int ch, w7, w8, w9, w10, w11, w12, w13, w14, w15, w16, w17, w18, w19, w20, w21, w22, w23, w24, w25, w26, w27, w28, w29, w30, w31, w32, w33, w34, w35, w36, w37, w38])), (lo, .inl (cI, 48, .inl (fa_fill al fl (i152 + 1)))), (hi, .inl (cI, 48, .inl (upd (fa_fill ah fh i152) (nI i152).toNatClampNeg (ah i152)))), (nl, .inl (cI, 48, .inl al)), (nh, .inl (cI, 48, .inl ah))] := hD
                        have hP := va_P_cg hP 2 (fa_fill ah fh (i152 + 1)) rfl (fun j _ => by rw [nI_clamp (by omega)]; exact congrFun (fa_fill_succ ah fh i152) j)
                        have hD := va_D_cg hD 2 (fa_fill ah fh (i152 + 1)) rfl
                        have hP : va_P (dC, dI) vwCl [(qm, .inr (11, [w0, .int fa, .ref lo, .ref hi, .ref nl, .ref nh, .int ch, w7, w8, w9, w10, w11, w12, w13, w14, w15, w16, w17, w18, w19, w20, w21, w22, w23, w24, w25, w26, w27, w28, w29, w30, w31, w32, w33, w34, w35, w36, w37, w38])), (lo, .inl (cI, 48, .inl (fa_fill al fl (i152 + 1)))), (hi, .inl (cI, 48, .inl (fa_fill ah fh (i152 + 1)))), (nl, .inl (cI, 48, .inl al)), (nh, .inl (cI, 48, .inl ah))] H := hP
                        have hD : va_D _ [(qm, .inr (11, [w0, .int fa, .ref lo, .ref hi, .ref nl, .ref nh, .int ch, w7, w8, w9, w10, w11, w12, w13, w14, w15, w16, w17, w18, w19, w20, w21, w22, w23, w24, w25, w26, w27, w28, w29, w30, w31, w32, w33, w34, w35, w36, w37, w38])), (lo, .inl (cI, 48, .inl (fa_fill al fl (i152 + 1)))), (hi, .inl (cI, 48, .inl (fa_fill ah fh (i152 + 1)))), (nl, .inl (cI, 48, .inl al)), (nh, .inl (cI, 48, .inl ah))] := hD
                        refine lv_iinc (v := nI (i152 + 1)) (lv' := [(3, .int (nI (i152 + 1))), (2, .int (nI (fa_cnt (chg fl fh al ah) (i152 + 1)))), (0, .ref qm), (1, .int dd)]) hx hb dX11_narrowed_220 hl (k := 1) rfl (nI_1 i152) (by decide) rfl (fun ls hl => ?_)
                        refine lv_goto (tgt := 152) hx hb dX11_narrowed_223 (by decide) ?_
                        exact ihi152 (i152 + 1)  _ _ ls (by omega) (by omega)  (hP.sub [0, 1, 2, 3, 4] rfl) (hD.sub [0, 1, 2, 3, 4] (by decide) rfl) hS (lv_sub hl [0, 1, 2, 3] rfl)
                      · skip
                        refine lv_iconst (v := 1) hx hb dX11_narrowed_189 (by decide) ?_
                        refine lv_goto (tgt := 194) hx hb dX11_narrowed_190 (by decide) ?_
                        refine lv_iadd hx hb dX11_narrowed_194 ?_
                        refine lv_topi (fun v194 ev194 => ?_)
                        have ev194 : v194 = nI (fa_cnt (chg fl fh al ah) (i152 + 1)) := by rw [ev194]; rw [fa_cnt_yes (by simp [chg, c6, c11])]; exact nI_1 _
                        subst ev194
                        refine lv_istore_n (lv' := [(2, .int (nI (fa_cnt (chg fl fh al ah) (i152 + 1)))), (3, .int (nI i152)), (0, .ref qm), (1, .int dd)]) hx hb dX11_narrowed_195 rfl hl (by decide) rfl (fun ls hl => ?_)
                        refine lv_aload_n hx hb dX11_narrowed_196 rfl (lv_at hl 2 rfl) ?_
                        refine va_get (D := (dC, dI)) (ci := 11) (v := .ref lo) (C := RX11) (T := TX11) (N := 39) hx hb hts hiX11 hown hK hP 0 rfl rfl 2 (by decide) (hts (.fieldLink RX11 7 "TributePitchesModel" "low" "[I") (by decide +kernel)) (fun _ h9 => h9) rfl dX11_narrowed_197 ?_
                        refine lv_iload_n hx hb dX11_narrowed_200 rfl (lv_at hl 1 rfl) ?_
                        refine lv_aload_n hx hb dX11_narrowed_201 rfl (lv_at hl 2 rfl) ?_
                        refine va_get (D := (dC, dI)) (ci := 11) (v := .ref nl) (C := RX11) (T := TX11) (N := 39) hx hb hts hiX11 hown hK hP 0 rfl rfl 4 (by decide) (hts (.fieldLink RX11 16 "TributePitchesModel" "newLow" "[I") (by decide +kernel)) (fun _ h9 => h9) rfl dX11_narrowed_202 ?_
                        refine lv_iload_n hx hb dX11_narrowed_205 rfl (lv_at hl 1 rfl) ?_
                        refine va_iald hx hb hK hP 3 0 rfl rfl (vp_in_nI (by omega) (by omega)) dX11_narrowed_206 ?_
                        refine lv_topi (fun v14 ev14 => ?_)
                        have ev14 : v14 = al i152 := by rw [ev14]; rw [nI_clamp (by omega)]
                        subst ev14
                        refine va_iast hx hb hK hP hD hS 1 0 rfl rfl (vp_in_nI (by omega) (by omega)) dX11_narrowed_207 (fun H locs hP hD hS => ?_)
                        have hP : va_P (dC, dI) vwCl [(qm, .inr (11, [w0, .int fa, .ref lo, .ref hi, .ref nl, .ref nh, .int ch, w7, w8, w9, w10, w11, w12, w13, w14, w15, w16, w17, w18, w19, w20, w21, w22, w23, w24, w25, w26, w27, w28, w29, w30, w31, w32, w33, w34, w35, w36, w37, w38])), (lo, .inl (cI, 48, .inl (upd (fa_fill al fl i152) (nI i152).toNatClampNeg (al i152)))), (hi, .inl (cI, 48, .inl (fa_fill ah fh i152))), (nl, .inl (cI, 48, .inl al)), (nh, .inl (cI, 48, .inl ah))] H := hP
                        have hD : va_D _ [(qm, .inr (11, [w0, .int fa, .ref lo, .ref hi, .ref nl, .ref nh, .int ch, w7, w8, w9, w10, w11, w12, w13, w14, w15, w16, w17, w18, w19, w20, w21, w22, w23, w24, w25, w26, w27, w28, w29, w30, w31, w32, w33, w34, w35, w36, w37, w38])), (lo, .inl (cI, 48, .inl (upd (fa_fill al fl i152) (nI i152).toNatClampNeg (al i152)))), (hi, .inl (cI, 48, .inl (fa_fill ah fh i152))), (nl, .inl (cI, 48, .inl al)), (nh, .inl (cI, 48, .inl ah))] := hD
                        have hP := va_P_cg hP 1 (fa_fill al fl (i152 + 1)) rfl (fun j _ => by rw [nI_clamp (by omega)]; exact congrFun (fa_fill_succ al fl i152) j)
                        have hD := va_D_cg hD 1 (fa_fill al fl (i152 + 1)) rfl
                        have hP : va_P (dC, dI) vwCl [(qm, .inr (11, [w0, .int fa, .ref lo, .ref hi, .ref nl, .ref nh, .int ch, w7, w8, w9, w10, w11, w12, w13, w14, w15, w16, w17, w18, w19, w20, w21, w22, w23, w24, w25, w26, w27, w28, w29, w30, w31, w32, w33, w34, w35, w36, w37, w38])), (lo, .inl (cI, 48, .inl (fa_fill al fl (i152 + 1)))), (hi, .inl (cI, 48, .inl (fa_fill ah fh i152))), (nl, .inl (cI, 48, .inl al)), (nh, .inl (cI, 48, .inl ah))] H := hP
                        have hD : va_D _ [(qm, .inr (11, [w0, .int fa, .ref lo, .ref hi, .ref nl, .ref nh, .int ch, w7, w8, w9, w10, w11, w12, w13, w14, w15, w16, w17, w18, w19, w20, w21, w22, w23, w24, w25, w26, w27, w28, w29, w30, w31, w32, w33, w34, w35, w36, w37, w38])), (lo, .inl (cI, 48, .inl (fa_fill al fl (i152 + 1)))), (hi, .inl (cI, 48, .inl (fa_fill ah fh i152))), (nl, .inl (cI, 48, .inl al)), (nh, .inl (cI, 48, .inl ah))] := hD
                        refine lv_aload_n hx hb dX11_narrowed_208 rfl (lv_at hl 2 rfl) ?_
                        refine va_get (D := (dC, dI)) (ci := 11) (v := .ref hi) (C := RX11) (T := TX11) (N := 39) hx hb hts hiX11 hown hK hP 0 rfl rfl 3 (by decide) (hts (.fieldLink RX11 13 "TributePitchesModel" "high" "[I") (by decide +kernel)) (fun _ h9 => h9) rfl dX11_narrowed_209 ?_
                        refine lv_iload_n hx hb dX11_narrowed_212 rfl (lv_at hl 1 rfl) ?_
                        refine lv_aload_n hx hb dX11_narrowed_213 rfl (lv_at hl 2 rfl) ?_
                        refine va_get (D := (dC, dI)) (ci := 11) (v := .ref nh) (C := RX11) (T := TX11) (N := 39) hx hb hts hiX11 hown hK hP 0 rfl rfl 5 (by decide) (hts (.fieldLink RX11 19 "TributePitchesModel" "newHigh" "[I") (by decide +kernel)) (fun _ h9 => h9) rfl dX11_narrowed_214 ?_
                        refine lv_iload_n hx hb dX11_narrowed_217 rfl (lv_at hl 1 rfl) ?_
                        refine va_iald hx hb hK hP 4 0 rfl rfl (vp_in_nI (by omega) (by omega)) dX11_narrowed_218 ?_
                        refine lv_topi (fun v15 ev15 => ?_)
                        have ev15 : v15 = ah i152 := by rw [ev15]; rw [nI_clamp (by omega)]
                        subst ev15
                        refine va_iast hx hb hK hP hD hS 2 0 rfl rfl (vp_in_nI (by omega) (by omega)) dX11_narrowed_219 (fun H locs hP hD hS => ?_)
                        have hP : va_P (dC, dI) vwCl [(qm, .inr (11, [w0, .int fa, .ref lo, .ref hi, .ref nl, .ref nh, .int ch, w7, w8, w9, w10, w11, w12, w13, w14, w15, w16, w17, w18, w19, w20, w21, w22, w23, w24, w25, w26, w27, w28, w29, w30, w31, w32, w33, w34, w35, w36, w37, w38])), (lo, .inl (cI, 48, .inl (fa_fill al fl (i152 + 1)))), (hi, .inl (cI, 48, .inl (upd (fa_fill ah fh i152) (nI i152).toNatClampNeg (ah i152)))), (nl, .inl (cI, 48, .inl al)), (nh, .inl (cI, 48, .inl ah))] H := hP
                        have hD : va_D _ [(qm, .inr (11, [w0, .int fa, .ref lo, .ref hi, .ref nl, .ref nh, .int ch, w7, w8, w9, w10, w11, w12, w13, w14, w15, w16, w17, w18, w19, w20, w21, w22, w23, w24, w25, w26, w27, w28, w29, w30, w31, w32, w33, w34, w35, w36, w37, w38])), (lo, .inl (cI, 48, .inl (fa_fill al fl (i152 + 1)))), (hi, .inl (cI, 48, .inl (upd (fa_fill ah fh i152) (nI i152).toNatClampNeg (ah i152)))), (nl, .inl (cI, 48, .inl al)), (nh, .inl (cI, 48, .inl ah))] := hD
                        have hP := va_P_cg hP 2 (fa_fill ah fh (i152 + 1)) rfl (fun j _ => by rw [nI_clamp (by omega)]; exact congrFun (fa_fill_succ ah fh i152) j)
                        have hD := va_D_cg hD 2 (fa_fill ah fh (i152 + 1)) rfl
                        have hP : va_P (dC, dI) vwCl [(qm, .inr (11, [w0, .int fa, .ref lo, .ref hi, .ref nl, .ref nh, .int ch, w7, w8, w9, w10, w11, w12, w13, w14, w15, w16, w17, w18, w19, w20, w21, w22, w23, w24, w25, w26, w27, w28, w29, w30, w31, w32, w33, w34, w35, w36, w37, w38])), (lo, .inl (cI, 48, .inl (fa_fill al fl (i152 + 1)))), (hi, .inl (cI, 48, .inl (fa_fill ah fh (i152 + 1)))), (nl, .inl (cI, 48, .inl al)), (nh, .inl (cI, 48, .inl ah))] H := hP
                        have hD : va_D _ [(qm, .inr (11, [w0, .int fa, .ref lo, .ref hi, .ref nl, .ref nh, .int ch, w7, w8, w9, w10, w11, w12, w13, w14, w15, w16, w17, w18, w19, w20, w21, w22, w23, w24, w25, w26, w27, w28, w29, w30, w31, w32, w33, w34, w35, w36, w37, w38])), (lo, .inl (cI, 48, .inl (fa_fill al fl (i152 + 1)))), (hi, .inl (cI, 48, .inl (fa_fill ah fh (i152 + 1)))), (nl, .inl (cI, 48, .inl al)), (nh, .inl (cI, 48, .inl ah))] := hD
                        refine lv_iinc (v := nI (i152 + 1)) (lv' := [(3, .int (nI (i152 + 1))), (2, .int (nI (fa_cnt (chg fl fh al ah) (i152 + 1)))), (0, .ref qm), (1, .int dd)]) hx hb dX11_narrowed_220 hl (k := 1) rfl (nI_1 i152) (by decide) rfl (fun ls hl => ?_)
                        refine lv_goto (tgt := 152) hx hb dX11_narrowed_223 (by decide) ?_
                        exact ihi152 (i152 + 1)  _ _ ls (by omega) (by omega)  (hP.sub [0, 1, 2, 3, 4] rfl) (hD.sub [0, 1, 2, 3, 4] (by decide) rfl) hS (lv_sub hl [0, 1, 2, 3] rfl)
              exact loop152 (48 + 1 - 0) 0  _ _ ls (by omega) (by omega)  hP hD hS (lv_sub hl [0, 1, 2, 3] rfl)
            · skip
              have hlti120 : i120 < 48 := (Nat.lt_or_ge i120 48).elim id (fun q => absurd (show nI 48 ≤ nI i120 from nI_le q (by omega)) c2)
              refine lv_aload_n hx hb dX11_narrowed_126 rfl (lv_at hl 2 rfl) ?_
              refine va_get (D := (dC, dI)) (ci := 11) (v := .ref nl) (C := RX11) (T := TX11) (N := 39) hx hb hts hiX11 hown hK hP 0 rfl rfl 4 (by decide) (hts (.fieldLink RX11 16 "TributePitchesModel" "newLow" "[I") (by decide +kernel)) (fun _ h9 => h9) rfl dX11_narrowed_127 ?_
              refine lv_iload_n hx hb dX11_narrowed_130 rfl (lv_at hl 0 rfl) ?_
              refine va_iald hx hb hK hP 3 0 rfl rfl (vp_in_nI (by omega) (by omega)) dX11_narrowed_131 ?_
              refine lv_topi (fun v16 ev16 => ?_)
              have ev16 : v16 = al i120 := by rw [ev16]; rw [nI_clamp (by omega)]
              subst ev16
              refine lv_aload_n hx hb dX11_narrowed_132 rfl (lv_at hl 2 rfl) ?_
              refine va_get (D := (dC, dI)) (ci := 11) (v := .ref nh) (C := RX11) (T := TX11) (N := 39) hx hb hts hiX11 hown hK hP 0 rfl rfl 5 (by decide) (hts (.fieldLink RX11 19 "TributePitchesModel" "newHigh" "[I") (by decide +kernel)) (fun _ h9 => h9) rfl dX11_narrowed_133 ?_
              refine lv_iload_n hx hb dX11_narrowed_136 rfl (lv_at hl 0 rfl) ?_
              refine va_iald hx hb hK hP 4 0 rfl rfl (vp_in_nI (by omega) (by omega)) dX11_narrowed_137 ?_
              refine lv_topi (fun v17 ev17 => ?_)
              have ev17 : v17 = ah i120 := by rw [ev17]; rw [nI_clamp (by omega)]
              subst ev17
              refine lv_icmp_le (tgt := 144) hx hb dX11_narrowed_138 (by decide) (fun c18 => ?_) (fun c18 => ?_)
              · skip
                refine lv_iinc (v := nI (i120 + 1)) (lv' := [(3, .int (nI (i120 + 1))), (2, .int 0), (0, .ref qm), (1, .int dd)]) hx hb dX11_narrowed_144 hl (k := 0) rfl (nI_1 i120) (by decide) rfl (fun ls hl => ?_)
                refine lv_goto (tgt := 120) hx hb dX11_narrowed_147 (by decide) ?_
                exact ihi120 (i120 + 1)  _ _ ls (by omega) (by omega) (fun j hj => (Nat.lt_or_ge j i120).elim (fun q => hall j q) (fun q => by have e8 : j = i120 := (by omega); rw [e8]; exact Int32.not_lt.mpr c18)) (hP.sub [0, 1, 2, 3, 4] rfl) (hD.sub [0, 1, 2, 3, 4] (by decide) rfl) hS (lv_sub hl [0, 1, 2, 3] rfl)
              · skip
                refine lv_bipush (v := (-3)) hx hb dX11_narrowed_141 (by decide) ?_
                subst hQ
                have hP9 := hP.sub (ws' := [(qm, .inr (11, [w0, .int fa, .ref lo, .ref hi, .ref nl, .ref nh, .int ch, w7, w8, w9, w10, w11, w12, w13, w14, w15, w16, w17, w18, w19, w20, w21, w22, w23, w24, w25, w26, w27, w28, w29, w30, w31, w32, w33, w34, w35, w36, w37, w38])), (lo, .inl (cI, 48, .inl fl)), (hi, .inl (cI, 48, .inl fh)), (nl, .inl (cI, 48, .inl al)), (nh, .inl (cI, 48, .inl ah))]) [0, 1, 2, 3, 4] rfl
                have hD9 := hD.sub (ws' := [(qm, .inr (11, [w0, .int fa, .ref lo, .ref hi, .ref nl, .ref nh, .int ch, w7, w8, w9, w10, w11, w12, w13, w14, w15, w16, w17, w18, w19, w20, w21, w22, w23, w24, w25, w26, w27, w28, w29, w30, w31, w32, w33, w34, w35, w36, w37, w38])), (lo, .inl (cI, 48, .inl fl)), (hi, .inl (cI, 48, .inl fh)), (nl, .inl (cI, 48, .inl al)), (nh, .inl (cI, 48, .inl ah))]) [0, 1, 2, 3, 4] (by decide) rfl
                have hK9 := hK
                exact W.iret (v := (-3)) hx hb hr (fun t ht hW => ⟨⟨(-3), (fl, fh, al, ah, ch, fa), rfl, ⟨⟨⟨hj.2.1, hj.2.2⟩, hj.1⟩, Or.inl ⟨rfl, ⟨i120, hlti120, Int32.not_le.mp c18⟩, rfl, rfl, rfl⟩⟩, by rw [ht]; exact hP9, va_K.moved hW.alike hK9, hD9⟩, hS.F ht⟩) hS.2.2 dX11_narrowed_143
        exact loop120 (48 + 1 - 0) 0  _ _ ls (by omega) (by omega) (fun j hj => absurd hj (Nat.not_lt_zero j)) hP hD hS (lv_sub hl [0, 1, 2, 3] rfl)
      · skip
        have hc0 : ¬ ch = 0 := c1
        refine lv_aload_n hx hb dX11_narrowed_12 rfl (lv_at hl 0 rfl) ?_
        refine lv_iconst (v := 0) hx hb dX11_narrowed_13 (by decide) ?_
        refine va_put (D := (dC, dI)) (ci := 11) (v := .int 0) (ty := .boolean) (C := RX11) (T := TX11) (N := 39) hx hb hts hiX11 tyX11 tyX11_ok nmX11 hown hK hP hD hS 0 rfl rfl 6 (by decide) (hts (.fieldLink RX11 117 "TributePitchesModel" "isChanged" "Z") (by decide +kernel)) (fun _ h9 => h9) rfl (by decide +kernel) rfl rfl (Nat.le_of_ble_eq_true rfl) dX11_narrowed_14 (fun H locs hP hD hS => ?_)
        have hP : va_P (dC, dI) vwCl [(qm, .inr (11, [w0, .int fa, .ref lo, .ref hi, .ref nl, .ref nh, .int 0, w7, w8, w9, w10, w11, w12, w13, w14, w15, w16, w17, w18, w19, w20, w21, w22, w23, w24, w25, w26, w27, w28, w29, w30, w31, w32, w33, w34, w35, w36, w37, w38])), (lo, .inl (cI, 48, .inl fl)), (hi, .inl (cI, 48, .inl fh)), (nl, .inl (cI, 48, .inl al)), (nh, .inl (cI, 48, .inl ah))] H := hP
        have hD : va_D _ [(qm, .inr (11, [w0, .int fa, .ref lo, .ref hi, .ref nl, .ref nh, .int 0, w7, w8, w9, w10, w11, w12, w13, w14, w15, w16, w17, w18, w19, w20, w21, w22, w23, w24, w25, w26, w27, w28, w29, w30, w31, w32, w33, w34, w35, w36, w37, w38])), (lo, .inl (cI, 48, .inl fl)), (hi, .inl (cI, 48, .inl fh)), (nl, .inl (cI, 48, .inl al)), (nh, .inl (cI, 48, .inl ah))] := hD
        refine lv_iconst (v := 0) hx hb dX11_narrowed_17 (by decide) ?_
        refine lv_istore_n (lv' := [(2, .int 0), (0, .ref qm), (1, .int dd)]) hx hb dX11_narrowed_18 rfl hl (by decide) rfl (fun ls hl => ?_)
        have loop19 : ∀ (ni19 i19 : Nat) (bl : Nat → Int32) (bh : Nat → Int32) (cq : Int32) (H : Heap) (locs : List Loc) (ls : Array Slot), i19 ≤ 48 → 48 + 1 ≤ i19 + ni19 → (jst dd gl gh al ah i19 (fun _ => False) bl bh cq) → va_P (dC, dI) vwCl [(qm, .inr (11, [w0, .int fa, .ref lo, .ref hi, .ref nl, .ref nh, .int cq, w7, w8, w9, w10, w11, w12, w13, w14, w15, w16, w17, w18, w19, w20, w21, w22, w23, w24, w25, w26, w27, w28, w29, w30, w31, w32, w33, w34, w35, w36, w37, w38])), (lo, .inl (cI, 48, .inl fl)), (hi, .inl (cI, 48, .inl fh)), (nl, .inl (cI, 48, .inl bl)), (nh, .inl (cI, 48, .inl bh))] H → va_D (va_A [(qm, .inr (11, [w0, .int fa, .ref lo, .ref hi, .ref nl, .ref nh, .int ch0, w7, w8, w9, w10, w11, w12, w13, w14, w15, w16, w17, w18, w19, w20, w21, w22, w23, w24, w25, w26, w27, w28, w29, w30, w31, w32, w33, w34, w35, w36, w37, w38])), (lo, .inl (cI, 48, .inl fl)), (hi, .inl (cI, 48, .inl fh)), (nl, .inl (cI, 48, .inl gl)), (nh, .inl (cI, 48, .inl gh))] s.heap.size) [(qm, .inr (11, [w0, .int fa, .ref lo, .ref hi, .ref nl, .ref nh, .int cq, w7, w8, w9, w10, w11, w12, w13, w14, w15, w16, w17, w18, w19, w20, w21, w22, w23, w24, w25, w26, w27, w28, w29, w30, w31, w32, w33, w34, w35, w36, w37, w38])), (lo, .inl (cI, 48, .inl fl)), (hi, .inl (cI, 48, .inl fh)), (nl, .inl (cI, 48, .inl bl)), (nh, .inl (cI, 48, .inl bh))] → va_S (va_A [(qm, .inr (11, [w0, .int fa, .ref lo, .ref hi, .ref nl, .ref nh, .int ch0, w7, w8, w9, w10, w11, w12, w13, w14, w15, w16, w17, w18, w19, w20, w21, w22, w23, w24, w25, w26, w27, w28, w29, w30, w31, w32, w33, w34, w35, w36, w37, w38])), (lo, .inl (cI, 48, .inl fl)), (hi, .inl (cI, 48, .inl fh)), (nl, .inl (cI, 48, .inl gl)), (nh, .inl (cI, 48, .inl gh))] s.heap.size) s.heap H locs → lv_has ls 4 [(2, .int (nI i19)), (0, .ref qm), (1, .int dd)] → W p l e ({ frames := 3, cells := 0, slots := 0, locals := 90 } : Room) s m ([.ref qm, .int dd] : List Value).toArray below meth c0 H locs 0 0 Q (F0 m 19 ls []) := by
          intro ni19
          induction ni19 with
          | zero =>
            intro i19 bl bh cq H locs ls h1 h2
            exact absurd h2 (by omega)
          | succ ni19 ihi19 =>
            intro i19 bl bh cq H locs ls hlei19 hni19 hjs hP hD hS hl
            refine lv_iload_n hx hb dX11_narrowed_19 rfl (lv_at hl 0 rfl) ?_
            refine lv_bipush (v := 48) hx hb dX11_narrowed_20 (by decide) ?_
            refine lv_icmp_ge (tgt := 113) hx hb dX11_narrowed_22 (by decide) (fun c19 => ?_) (fun c19 => ?_)
            · skip
              have hei19 : i19 = 48 := (Nat.lt_or_ge i19 48).elim (fun q => absurd c19 (show ¬ nI 48 ≤ nI i19 from nI_ge q (by omega))) (fun q => by omega)
              have hjs48 : jst dd gl gh al ah 48 (fun _ => False) bl bh cq := (by rw [← hei19]; exact hjs)
              refine lv_goto (tgt := 5) hx hb dX11_narrowed_113 (by decide) ?_
              exact ihi5 bl bh cq _ _ ls (Nat.lt_of_lt_of_le ((jst_end hjs48).2 hc0) (Nat.le_of_lt_succ hfi5)) ⟨hjs48.1, hjs48.2.1⟩ (jst_end hjs48).1 (hP.sub [0, 1, 2, 3, 4] rfl) (hD.sub [0, 1, 2, 3, 4] (by decide) rfl) hS (lv_sub hl [1, 2] rfl)
            · skip
              have hlti19 : i19 < 48 := (Nat.lt_or_ge i19 48).elim id (fun q => absurd (show nI 48 ≤ nI i19 from nI_le q (by omega)) c19)
              refine lv_aload_n hx hb dX11_narrowed_25 rfl (lv_at hl 1 rfl) ?_
              refine va_get (D := (dC, dI)) (ci := 11) (v := .ref nl) (C := RX11) (T := TX11) (N := 39) hx hb hts hiX11 hown hK hP 0 rfl rfl 4 (by decide) (hts (.fieldLink RX11 16 "TributePitchesModel" "newLow" "[I") (by decide +kernel)) (fun _ h9 => h9) rfl dX11_narrowed_26 ?_
              refine lv_iload_n hx hb dX11_narrowed_29 rfl (lv_at hl 0 rfl) ?_
              refine va_iald hx hb hK hP 3 0 rfl rfl (vp_in_nI (by omega) (by omega)) dX11_narrowed_30 ?_
              refine lv_topi (fun v20 ev20 => ?_)
              have ev20 : v20 = bl i19 := by rw [ev20]; rw [nI_clamp (by omega)]
              subst ev20
              refine lv_aload_n hx hb dX11_narrowed_31 rfl (lv_at hl 1 rfl) ?_
              refine va_get (D := (dC, dI)) (ci := 11) (v := .ref nh) (C := RX11) (T := TX11) (N := 39) hx hb hts hiX11 hown hK hP 0 rfl rfl 5 (by decide) (hts (.fieldLink RX11 19 "TributePitchesModel" "newHigh" "[I") (by decide +kernel)) (fun _ h9 => h9) rfl dX11_narrowed_32 ?_
              refine lv_iload_n hx hb dX11_narrowed_35 rfl (lv_at hl 0 rfl) ?_
              refine va_iald hx hb hK hP 4 0 rfl rfl (vp_in_nI (by omega) (by omega)) dX11_narrowed_36 ?_
              refine lv_topi (fun v21 ev21 => ?_)
              have ev21 : v21 = bh i19 := by rw [ev21]; rw [nI_clamp (by omega)]
              subst ev21
              refine lv_icmp_le (tgt := 43) hx hb dX11_narrowed_37 (by decide) (fun c22 => ?_) (fun c22 => ?_)
              · skip
                refine lv_aload_n hx hb dX11_narrowed_43 rfl (lv_at hl 1 rfl) ?_
                refine lv_iload_n hx hb dX11_narrowed_44 rfl (lv_at hl 0 rfl) ?_
                refine lv_iload_n hx hb dX11_narrowed_45 rfl (lv_at hl 0 rfl) ?_
                refine lv_bipush (v := 8) hx hb dX11_narrowed_46 (by decide) ?_
                refine lv_irem hx hb dX11_narrowed_48 (by decide) ?_
                refine lv_topi (fun vr evr => ?_)
                have evr : vr = nI (i19 % 8) := by rw [evr]; exact pk_rem (d := 8) (by omega) (by decide) (by decide)
                subst evr
                refine lv_iconst (v := 1) hx hb dX11_narrowed_49 (by decide) ?_
                refine lv_isub hx hb dX11_narrowed_50 ?_
                refine lv_iload_n hx hb dX11_narrowed_51 rfl (lv_at hl 0 rfl) ?_
                refine lv_bipush (v := 8) hx hb dX11_narrowed_52 (by decide) ?_
                refine lv_idiv hx hb dX11_narrowed_54 (by decide) ?_
                refine lv_topi (fun vd evd => ?_)
                have evd : vd = nI (i19 / 8) := by rw [evd]; exact pk_div (d := 8) (by omega) (by decide) (by decide)
                subst evd
                refine lv_iload_n hx hb dX11_narrowed_55 rfl (lv_at hl 2 rfl) ?_
                have hPc := hP.sub (ws' := [(qm, .inr (11, [w0, .int fa, .ref lo, .ref hi, .ref nl, .ref nh, .int cq, w7, w8, w9, w10, w11, w12, w13, w14, w15, w16, w17, w18, w19, w20, w21, w22, w23, w24, w25, w26, w27, w28, w29, w30, w31, w32, w33, w34, w35, w36, w37, w38])), (nl, .inl (cI, 48, .inl bl)), (nh, .inl (cI, 48, .inl bh))]) [0, 3, 4] rfl
                have hDc := hD.sub (ws' := [(qm, .inr (11, [w0, .int fa, .ref lo, .ref hi, .ref nl, .ref nh, .int cq, w7, w8, w9, w10, w11, w12, w13, w14, w15, w16, w17, w18, w19, w20, w21, w22, w23, w24, w25, w26, w27, w28, w29, w30, w31, w32, w33, w34, w35, w36, w37, w38])), (nl, .inl (cI, 48, .inl bl)), (nh, .inl (cI, 48, .inl bh))]) [0, 3, 4] (by decide) rfl
                have hKc := hK.sub (tys' := [(cI, .int)]) [0] rfl
                have hFc := va_free (wc := [(qm, .inr (11, [w0, .int fa, .ref lo, .ref hi, .ref nl, .ref nh, .int cq, w7, w8, w9, w10, w11, w12, w13, w14, w15, w16, w17, w18, w19, w20, w21, w22, w23, w24, w25, w26, w27, w28, w29, w30, w31, w32, w33, w34, w35, w36, w37, w38])), (nl, .inl (cI, 48, .inl bl)), (nh, .inl (cI, 48, .inl bh))]) hD hS hA [0, 3, 4] rfl
                refine va_callv (va_runV (As := [.int (nI i19), .int ((nI (i19 % 8)) - 1), .int (nI (i19 / 8)), .int dd]) (rest := []) ⟨hx, hb, hml, hown, hts⟩ (r_meetNeighbour l dC dI cI _ qm w0 (.int fa) (.ref lo) (.ref hi) w7 w8 w9 w10 w11 w12 w13 w14 w15 w16 w17 w18 w19 w20 w21 w22 w23 w24 w25 w26 w27 w28 w29 w30 w31 w32 w33 w34 w35 w36 w37 w38 nl nh i19 ((nI (i19 % 8)) - 1) (nI (i19 / 8)) dd cq bl bh (by omega)) (cwV 4 hts gX11_narrowed_X11_meetNeighbour rfl rfl rfl (by decide +kernel) ⟨Nat.le_of_ble_eq_true rfl, Nat.le_of_ble_eq_true rfl⟩) (pw_preV (va_recv hKc hPc (ci := 11) (q0 := 0) rfl rfl) hPc hKc hDc hN) rfl rfl hl.1 rfl (lv_room (Nat.le_of_ble_eq_true rfl)) dX11_narrowed_56 ⟨Nat.le_of_ble_eq_true rfl, Nat.le_of_ble_eq_true rfl⟩) hS (fun q _ h => hFc q h) hFc (fun u t H1 locs ht hvm hw hB hz1 hk1 hS => ?_)
                obtain ⟨al_24, ah_25, cq_26⟩ := u
                have hr23 : (¬ ((0 ≤ ((nI (i19 % 8)) - 1) ∧ ((nI (i19 % 8)) - 1) ≤ 7) ∧ (0 ≤ (nI (i19 / 8)) ∧ (nI (i19 / 8)) ≤ 5)) ∧ al_24 = bl ∧ ah_25 = bh ∧ cq_26 = cq) ∨ (∃ b, b < 48 ∧ ((0 ≤ ((nI (i19 % 8)) - 1) ∧ ((nI (i19 % 8)) - 1) ≤ 7) ∧ (0 ≤ (nI (i19 / 8)) ∧ (nI (i19 / 8)) ≤ 5)) ∧ 8 * (nI (i19 / 8)) + ((nI (i19 % 8)) - 1) = nI b ∧ al_24 = tcL i19 (bl b - dd) bl ∧ ah_25 = tcH i19 (bh b + dd) bh ∧ cq_26 = (if bl i19 < bl b - dd ∨ bh b + dd < bh i19 then 1 else cq)) := hw
                obtain ⟨hP1, hK1, hD1⟩ := hB
                rw [ht] at hP1
                obtain ⟨hP, hD⟩ := va_join (wr := [(lo, .inl (cI, 48, .inl fl)), (hi, .inl (cI, 48, .inl fh))]) (w1 := [(qm, .inr (11, [w0, .int fa, .ref lo, .ref hi, .ref nl, .ref nh, .int cq_26, w7, w8, w9, w10, w11, w12, w13, w14, w15, w16, w17, w18, w19, w20, w21, w22, w23, w24, w25, w26, w27, w28, w29, w30, w31, w32, w33, w34, w35, w36, w37, w38])), (nl, .inl (cI, 48, .inl al_24)), (nh, .inl (cI, 48, .inl ah_25))]) hP hD [0, 3, 4] [1, 2] rfl rfl (by decide) (by decide) hk1 hFc hP1 hD1
                generalize H1 = H at hP hS ⊢
                have hP : va_P (dC, dI) vwCl [(lo, .inl (cI, 48, .inl fl)), (hi, .inl (cI, 48, .inl fh)), (qm, .inr (11, [w0, .int fa, .ref lo, .ref hi, .ref nl, .ref nh, .int cq_26, w7, w8, w9, w10, w11, w12, w13, w14, w15, w16, w17, w18, w19, w20, w21, w22, w23, w24, w25, w26, w27, w28, w29, w30, w31, w32, w33, w34, w35, w36, w37, w38])), (nl, .inl (cI, 48, .inl al_24)), (nh, .inl (cI, 48, .inl ah_25))] H := hP
                have hD : va_D _ [(lo, .inl (cI, 48, .inl fl)), (hi, .inl (cI, 48, .inl fh)), (qm, .inr (11, [w0, .int fa, .ref lo, .ref hi, .ref nl, .ref nh, .int cq_26, w7, w8, w9, w10, w11, w12, w13, w14, w15, w16, w17, w18, w19, w20, w21, w22, w23, w24, w25, w26, w27, w28, w29, w30, w31, w32, w33, w34, w35, w36, w37, w38])), (nl, .inl (cI, 48, .inl al_24)), (nh, .inl (cI, 48, .inl ah_25))] := hD
                refine lv_aload_n hx hb dX11_narrowed_59 rfl (lv_at hl 1 rfl) ?_
                refine lv_iload_n hx hb dX11_narrowed_60 rfl (lv_at hl 0 rfl) ?_
                refine lv_iload_n hx hb dX11_narrowed_61 rfl (lv_at hl 0 rfl) ?_
                refine lv_bipush (v := 8) hx hb dX11_narrowed_62 (by decide) ?_
                refine lv_irem hx hb dX11_narrowed_64 (by decide) ?_
                refine lv_topi (fun vr evr => ?_)
                have evr : vr = nI (i19 % 8) := by rw [evr]; exact pk_rem (d := 8) (by omega) (by decide) (by decide)
                subst evr
                refine lv_iconst (v := 1) hx hb dX11_narrowed_65 (by decide) ?_
                refine lv_iadd hx hb dX11_narrowed_66 ?_
                refine lv_iload_n hx hb dX11_narrowed_67 rfl (lv_at hl 0 rfl) ?_
                refine lv_bipush (v := 8) hx hb dX11_narrowed_68 (by decide) ?_
                refine lv_idiv hx hb dX11_narrowed_70 (by decide) ?_
                refine lv_topi (fun vd evd => ?_)
                have evd : vd = nI (i19 / 8) := by rw [evd]; exact pk_div (d := 8) (by omega) (by decide) (by decide)
                subst evd
                refine lv_iload_n hx hb dX11_narrowed_71 rfl (lv_at hl 2 rfl) ?_
                have hPc := hP.sub (ws' := [(qm, .inr (11, [w0, .int fa, .ref lo, .ref hi, .ref nl, .ref nh, .int cq_26, w7, w8, w9, w10, w11, w12, w13, w14, w15, w16, w17, w18, w19, w20, w21, w22, w23, w24, w25, w26, w27, w28, w29, w30, w31, w32, w33, w34, w35, w36, w37, w38])), (nl, .inl (cI, 48, .inl al_24)), (nh, .inl (cI, 48, .inl ah_25))]) [2, 3, 4] rfl
                have hDc := hD.sub (ws' := [(qm, .inr (11, [w0, .int fa, .ref lo, .ref hi, .ref nl, .ref nh, .int cq_26, w7, w8, w9, w10, w11, w12, w13, w14, w15, w16, w17, w18, w19, w20, w21, w22, w23, w24, w25, w26, w27, w28, w29, w30, w31, w32, w33, w34, w35, w36, w37, w38])), (nl, .inl (cI, 48, .inl al_24)), (nh, .inl (cI, 48, .inl ah_25))]) [2, 3, 4] (by decide) rfl
                have hKc := hK.sub (tys' := [(cI, .int)]) [0] rfl
                have hFc := va_free (wc := [(qm, .inr (11, [w0, .int fa, .ref lo, .ref hi, .ref nl, .ref nh, .int cq_26, w7, w8, w9, w10, w11, w12, w13, w14, w15, w16, w17, w18, w19, w20, w21, w22, w23, w24, w25, w26, w27, w28, w29, w30, w31, w32, w33, w34, w35, w36, w37, w38])), (nl, .inl (cI, 48, .inl al_24)), (nh, .inl (cI, 48, .inl ah_25))]) hD hS hA [2, 3, 4] rfl
                refine va_callv (va_runV (As := [.int (nI i19), .int ((nI (i19 % 8)) + 1), .int (nI (i19 / 8)), .int dd]) (rest := []) ⟨hx, hb, hml, hown, hts⟩ (r_meetNeighbour l dC dI cI _ qm w0 (.int fa) (.ref lo) (.ref hi) w7 w8 w9 w10 w11 w12 w13 w14 w15 w16 w17 w18 w19 w20 w21 w22 w23 w24 w25 w26 w27 w28 w29 w30 w31 w32 w33 w34 w35 w36 w37 w38 nl nh i19 ((nI (i19 % 8)) + 1) (nI (i19 / 8)) dd cq_26 al_24 ah_25 (by omega)) (cwV 4 hts gX11_narrowed_X11_meetNeighbour rfl rfl rfl (by decide +kernel) ⟨Nat.le_of_ble_eq_true rfl, Nat.le_of_ble_eq_true rfl⟩) (pw_preV (va_recv hKc hPc (ci := 11) (q0 := 0) rfl rfl) hPc hKc hDc hN) rfl rfl hl.1 rfl (lv_room (Nat.le_of_ble_eq_true rfl)) dX11_narrowed_72 ⟨Nat.le_of_ble_eq_true rfl, Nat.le_of_ble_eq_true rfl⟩) hS (fun q _ h => hFc q h) hFc (fun u t H1 locs ht hvm hw hB hz1 hk1 hS => ?_)
                obtain ⟨al_28, ah_29, cq_30⟩ := u
                have hr27 : (¬ ((0 ≤ ((nI (i19 % 8)) + 1) ∧ ((nI (i19 % 8)) + 1) ≤ 7) ∧ (0 ≤ (nI (i19 / 8)) ∧ (nI (i19 / 8)) ≤ 5)) ∧ al_28 = al_24 ∧ ah_29 = ah_25 ∧ cq_30 = cq_26) ∨ (∃ b, b < 48 ∧ ((0 ≤ ((nI (i19 % 8)) + 1) ∧ ((nI (i19 % 8)) + 1) ≤ 7) ∧ (0 ≤ (nI (i19 / 8)) ∧ (nI (i19 / 8)) ≤ 5)) ∧ 8 * (nI (i19 / 8)) + ((nI (i19 % 8)) + 1) = nI b ∧ al_28 = tcL i19 (al_24 b - dd) al_24 ∧ ah_29 = tcH i19 (ah_25 b + dd) ah_25 ∧ cq_30 = (if al_24 i19 < al_24 b - dd ∨ ah_25 b + dd < ah_25 i19 then 1 else cq_26)) := hw
                obtain ⟨hP1, hK1, hD1⟩ := hB
                rw [ht] at hP1
                obtain ⟨hP, hD⟩ := va_join (wr := [(lo, .inl (cI, 48, .inl fl)), (hi, .inl (cI, 48, .inl fh))]) (w1 := [(qm, .inr (11, [w0, .int fa, .ref lo, .ref hi, .ref nl, .ref nh, .int cq_30, w7, w8, w9, w10, w11, w12, w13, w14, w15, w16, w17, w18, w19, w20, w21, w22, w23, w24, w25, w26, w27, w28, w29, w30, w31, w32, w33, w34, w35, w36, w37, w38])), (nl, .inl (cI, 48, .inl al_28)), (nh, .inl (cI, 48, .inl ah_29))]) hP hD [2, 3, 4] [0, 1] rfl rfl (by decide) (by decide) hk1 hFc hP1 hD1
                generalize H1 = H at hP hS ⊢
                have hP : va_P (dC, dI) vwCl [(lo, .inl (cI, 48, .inl fl)), (hi, .inl (cI, 48, .inl fh)), (qm, .inr (11, [w0, .int fa, .ref lo, .ref hi, .ref nl, .ref nh, .int cq_30, w7, w8, w9, w10, w11, w12, w13, w14, w15, w16, w17, w18, w19, w20, w21, w22, w23, w24, w25, w26, w27, w28, w29, w30, w31, w32, w33, w34, w35, w36, w37, w38])), (nl, .inl (cI, 48, .inl al_28)), (nh, .inl (cI, 48, .inl ah_29))] H := hP
                have hD : va_D _ [(lo, .inl (cI, 48, .inl fl)), (hi, .inl (cI, 48, .inl fh)), (qm, .inr (11, [w0, .int fa, .ref lo, .ref hi, .ref nl, .ref nh, .int cq_30, w7, w8, w9, w10, w11, w12, w13, w14, w15, w16, w17, w18, w19, w20, w21, w22, w23, w24, w25, w26, w27, w28, w29, w30, w31, w32, w33, w34, w35, w36, w37, w38])), (nl, .inl (cI, 48, .inl al_28)), (nh, .inl (cI, 48, .inl ah_29))] := hD
                refine lv_aload_n hx hb dX11_narrowed_75 rfl (lv_at hl 1 rfl) ?_
                refine lv_iload_n hx hb dX11_narrowed_76 rfl (lv_at hl 0 rfl) ?_
                refine lv_iload_n hx hb dX11_narrowed_77 rfl (lv_at hl 0 rfl) ?_
                refine lv_bipush (v := 8) hx hb dX11_narrowed_78 (by decide) ?_
                refine lv_irem hx hb dX11_narrowed_80 (by decide) ?_
                refine lv_topi (fun vr evr => ?_)
                have evr : vr = nI (i19 % 8) := by rw [evr]; exact pk_rem (d := 8) (by omega) (by decide) (by decide)
                subst evr
                refine lv_iload_n hx hb dX11_narrowed_81 rfl (lv_at hl 0 rfl) ?_
                refine lv_bipush (v := 8) hx hb dX11_narrowed_82 (by decide) ?_
                refine lv_idiv hx hb dX11_narrowed_84 (by decide) ?_
                refine lv_topi (fun vd evd => ?_)
                have evd : vd = nI (i19 / 8) := by rw [evd]; exact pk_div (d := 8) (by omega) (by decide) (by decide)
                subst evd
                refine lv_iconst (v := 1) hx hb dX11_narrowed_85 (by decide) ?_
                refine lv_isub hx hb dX11_narrowed_86 ?_
                refine lv_iload_n hx hb dX11_narrowed_87 rfl (lv_at hl 2 rfl) ?_
                have hPc := hP.sub (ws' := [(qm, .inr (11, [w0, .int fa, .ref lo, .ref hi, .ref nl, .ref nh, .int cq_30, w7, w8, w9, w10, w11, w12, w13, w14, w15, w16, w17, w18, w19, w20, w21, w22, w23, w24, w25, w26, w27, w28, w29, w30, w31, w32, w33, w34, w35, w36, w37, w38])), (nl, .inl (cI, 48, .inl al_28)), (nh, .inl (cI, 48, .inl ah_29))]) [2, 3, 4] rfl
                have hDc := hD.sub (ws' := [(qm, .inr (11, [w0, .int fa, .ref lo, .ref hi, .ref nl, .ref nh, .int cq_30, w7, w8, w9, w10, w11, w12, w13, w14, w15, w16, w17, w18, w19, w20, w21, w22, w23, w24, w25, w26, w27, w28, w29, w30, w31, w32, w33, w34, w35, w36, w37, w38])), (nl, .inl (cI, 48, .inl al_28)), (nh, .inl (cI, 48, .inl ah_29))]) [2, 3, 4] (by decide) rfl
                have hKc := hK.sub (tys' := [(cI, .int)]) [0] rfl
                have hFc := va_free (wc := [(qm, .inr (11, [w0, .int fa, .ref lo, .ref hi, .ref nl, .ref nh, .int cq_30, w7, w8, w9, w10, w11, w12, w13, w14, w15, w16, w17, w18, w19, w20, w21, w22, w23, w24, w25, w26, w27, w28, w29, w30, w31, w32, w33, w34, w35, w36, w37, w38])), (nl, .inl (cI, 48, .inl al_28)), (nh, .inl (cI, 48, .inl ah_29))]) hD hS hA [2, 3, 4] rfl
                refine va_callv (va_runV (As := [.int (nI i19), .int (nI (i19 % 8)), .int ((nI (i19 / 8)) - 1), .int dd]) (rest := []) ⟨hx, hb, hml, hown, hts⟩ (r_meetNeighbour l dC dI cI _ qm w0 (.int fa) (.ref lo) (.ref hi) w7 w8 w9 w10 w11 w12 w13 w14 w15 w16 w17 w18 w19 w20 w21 w22 w23 w24 w25 w26 w27 w28 w29 w30 w31 w32 w33 w34 w35 w36 w37 w38 nl nh i19 (nI (i19 % 8)) ((nI (i19 / 8)) - 1) dd cq_30 al_28 ah_29 (by omega)) (cwV 4 hts gX11_narrowed_X11_meetNeighbour rfl rfl rfl (by decide +kernel) ⟨Nat.le_of_ble_eq_true rfl, Nat.le_of_ble_eq_true rfl⟩) (pw_preV (va_recv hKc hPc (ci := 11) (q0 := 0) rfl rfl) hPc hKc hDc hN) rfl rfl hl.1 rfl (lv_room (Nat.le_of_ble_eq_true rfl)) dX11_narrowed_88 ⟨Nat.le_of_ble_eq_true rfl, Nat.le_of_ble_eq_true rfl⟩) hS (fun q _ h => hFc q h) hFc (fun u t H1 locs ht hvm hw hB hz1 hk1 hS => ?_)
                obtain ⟨al_32, ah_33, cq_34⟩ := u
                have hr31 : (¬ ((0 ≤ (nI (i19 % 8)) ∧ (nI (i19 % 8)) ≤ 7) ∧ (0 ≤ ((nI (i19 / 8)) - 1) ∧ ((nI (i19 / 8)) - 1) ≤ 5)) ∧ al_32 = al_28 ∧ ah_33 = ah_29 ∧ cq_34 = cq_30) ∨ (∃ b, b < 48 ∧ ((0 ≤ (nI (i19 % 8)) ∧ (nI (i19 % 8)) ≤ 7) ∧ (0 ≤ ((nI (i19 / 8)) - 1) ∧ ((nI (i19 / 8)) - 1) ≤ 5)) ∧ 8 * ((nI (i19 / 8)) - 1) + (nI (i19 % 8)) = nI b ∧ al_32 = tcL i19 (al_28 b - dd) al_28 ∧ ah_33 = tcH i19 (ah_29 b + dd) ah_29 ∧ cq_34 = (if al_28 i19 < al_28 b - dd ∨ ah_29 b + dd < ah_29 i19 then 1 else cq_30)) := hw
                obtain ⟨hP1, hK1, hD1⟩ := hB
                rw [ht] at hP1
                obtain ⟨hP, hD⟩ := va_join (wr := [(lo, .inl (cI, 48, .inl fl)), (hi, .inl (cI, 48, .inl fh))]) (w1 := [(qm, .inr (11, [w0, .int fa, .ref lo, .ref hi, .ref nl, .ref nh, .int cq_34, w7, w8, w9, w10, w11, w12, w13, w14, w15, w16, w17, w18, w19, w20, w21, w22, w23, w24, w25, w26, w27, w28, w29, w30, w31, w32, w33, w34, w35, w36, w37, w38])), (nl, .inl (cI, 48, .inl al_32)), (nh, .inl (cI, 48, .inl ah_33))]) hP hD [2, 3, 4] [0, 1] rfl rfl (by decide) (by decide) hk1 hFc hP1 hD1
                generalize H1 = H at hP hS ⊢
                have hP : va_P (dC, dI) vwCl [(lo, .inl (cI, 48, .inl fl)), (hi, .inl (cI, 48, .inl fh)), (qm, .inr (11, [w0, .int fa, .ref lo, .ref hi, .ref nl, .ref nh, .int cq_34, w7, w8, w9, w10, w11, w12, w13, w14, w15, w16, w17, w18, w19, w20, w21, w22, w23, w24, w25, w26, w27, w28, w29, w30, w31, w32, w33, w34, w35, w36, w37, w38])), (nl, .inl (cI, 48, .inl al_32)), (nh, .inl (cI, 48, .inl ah_33))] H := hP
                have hD : va_D _ [(lo, .inl (cI, 48, .inl fl)), (hi, .inl (cI, 48, .inl fh)), (qm, .inr (11, [w0, .int fa, .ref lo, .ref hi, .ref nl, .ref nh, .int cq_34, w7, w8, w9, w10, w11, w12, w13, w14, w15, w16, w17, w18, w19, w20, w21, w22, w23, w24, w25, w26, w27, w28, w29, w30, w31, w32, w33, w34, w35, w36, w37, w38])), (nl, .inl (cI, 48, .inl al_32)), (nh, .inl (cI, 48, .inl ah_33))] := hD
                refine lv_aload_n hx hb dX11_narrowed_91 rfl (lv_at hl 1 rfl) ?_
                refine lv_iload_n hx hb dX11_narrowed_92 rfl (lv_at hl 0 rfl) ?_
                refine lv_iload_n hx hb dX11_narrowed_93 rfl (lv_at hl 0 rfl) ?_
                refine lv_bipush (v := 8) hx hb dX11_narrowed_94 (by decide) ?_
                refine lv_irem hx hb dX11_narrowed_96 (by decide) ?_
                refine lv_topi (fun vr evr => ?_)
                have evr : vr = nI (i19 % 8) := by rw [evr]; exact pk_rem (d := 8) (by omega) (by decide) (by decide)
                subst evr
                refine lv_iload_n hx hb dX11_narrowed_97 rfl (lv_at hl 0 rfl) ?_
                refine lv_bipush (v := 8) hx hb dX11_narrowed_98 (by decide) ?_
                refine lv_idiv hx hb dX11_narrowed_100 (by decide) ?_
                refine lv_topi (fun vd evd => ?_)
                have evd : vd = nI (i19 / 8) := by rw [evd]; exact pk_div (d := 8) (by omega) (by decide) (by decide)
                subst evd
                refine lv_iconst (v := 1) hx hb dX11_narrowed_101 (by decide) ?_
                refine lv_iadd hx hb dX11_narrowed_102 ?_
                refine lv_iload_n hx hb dX11_narrowed_103 rfl (lv_at hl 2 rfl) ?_
                have hPc := hP.sub (ws' := [(qm, .inr (11, [w0, .int fa, .ref lo, .ref hi, .ref nl, .ref nh, .int cq_34, w7, w8, w9, w10, w11, w12, w13, w14, w15, w16, w17, w18, w19, w20, w21, w22, w23, w24, w25, w26, w27, w28, w29, w30, w31, w32, w33, w34, w35, w36, w37, w38])), (nl, .inl (cI, 48, .inl al_32)), (nh, .inl (cI, 48, .inl ah_33))]) [2, 3, 4] rfl
                have hDc := hD.sub (ws' := [(qm, .inr (11, [w0, .int fa, .ref lo, .ref hi, .ref nl, .ref nh, .int cq_34, w7, w8, w9, w10, w11, w12, w13, w14, w15, w16, w17, w18, w19, w20, w21, w22, w23, w24, w25, w26, w27, w28, w29, w30, w31, w32, w33, w34, w35, w36, w37, w38])), (nl, .inl (cI, 48, .inl al_32)), (nh, .inl (cI, 48, .inl ah_33))]) [2, 3, 4] (by decide) rfl
                have hKc := hK.sub (tys' := [(cI, .int)]) [0] rfl
                have hFc := va_free (wc := [(qm, .inr (11, [w0, .int fa, .ref lo, .ref hi, .ref nl, .ref nh, .int cq_34, w7, w8, w9, w10, w11, w12, w13, w14, w15, w16, w17, w18, w19, w20, w21, w22, w23, w24, w25, w26, w27, w28, w29, w30, w31, w32, w33, w34, w35, w36, w37, w38])), (nl, .inl (cI, 48, .inl al_32)), (nh, .inl (cI, 48, .inl ah_33))]) hD hS hA [2, 3, 4] rfl
                refine va_callv (va_runV (As := [.int (nI i19), .int (nI (i19 % 8)), .int ((nI (i19 / 8)) + 1), .int dd]) (rest := []) ⟨hx, hb, hml, hown, hts⟩ (r_meetNeighbour l dC dI cI _ qm w0 (.int fa) (.ref lo) (.ref hi) w7 w8 w9 w10 w11 w12 w13 w14 w15 w16 w17 w18 w19 w20 w21 w22 w23 w24 w25 w26 w27 w28 w29 w30 w31 w32 w33 w34 w35 w36 w37 w38 nl nh i19 (nI (i19 % 8)) ((nI (i19 / 8)) + 1) dd cq_34 al_32 ah_33 (by omega)) (cwV 4 hts gX11_narrowed_X11_meetNeighbour rfl rfl rfl (by decide +kernel) ⟨Nat.le_of_ble_eq_true rfl, Nat.le_of_ble_eq_true rfl⟩) (pw_preV (va_recv hKc hPc (ci := 11) (q0 := 0) rfl rfl) hPc hKc hDc hN) rfl rfl hl.1 rfl (lv_room (Nat.le_of_ble_eq_true rfl)) dX11_narrowed_104 ⟨Nat.le_of_ble_eq_true rfl, Nat.le_of_ble_eq_true rfl⟩) hS (fun q _ h => hFc q h) hFc (fun u t H1 locs ht hvm hw hB hz1 hk1 hS => ?_)
                obtain ⟨al_36, ah_37, cq_38⟩ := u
                have hr35 : (¬ ((0 ≤ (nI (i19 % 8)) ∧ (nI (i19 % 8)) ≤ 7) ∧ (0 ≤ ((nI (i19 / 8)) + 1) ∧ ((nI (i19 / 8)) + 1) ≤ 5)) ∧ al_36 = al_32 ∧ ah_37 = ah_33 ∧ cq_38 = cq_34) ∨ (∃ b, b < 48 ∧ ((0 ≤ (nI (i19 % 8)) ∧ (nI (i19 % 8)) ≤ 7) ∧ (0 ≤ ((nI (i19 / 8)) + 1) ∧ ((nI (i19 / 8)) + 1) ≤ 5)) ∧ 8 * ((nI (i19 / 8)) + 1) + (nI (i19 % 8)) = nI b ∧ al_36 = tcL i19 (al_32 b - dd) al_32 ∧ ah_37 = tcH i19 (ah_33 b + dd) ah_33 ∧ cq_38 = (if al_32 i19 < al_32 b - dd ∨ ah_33 b + dd < ah_33 i19 then 1 else cq_34)) := hw
                obtain ⟨hP1, hK1, hD1⟩ := hB
                rw [ht] at hP1
                obtain ⟨hP, hD⟩ := va_join (wr := [(lo, .inl (cI, 48, .inl fl)), (hi, .inl (cI, 48, .inl fh))]) (w1 := [(qm, .inr (11, [w0, .int fa, .ref lo, .ref hi, .ref nl, .ref nh, .int cq_38, w7, w8, w9, w10, w11, w12, w13, w14, w15, w16, w17, w18, w19, w20, w21, w22, w23, w24, w25, w26, w27, w28, w29, w30, w31, w32, w33, w34, w35, w36, w37, w38])), (nl, .inl (cI, 48, .inl al_36)), (nh, .inl (cI, 48, .inl ah_37))]) hP hD [2, 3, 4] [0, 1] rfl rfl (by decide) (by decide) hk1 hFc hP1 hD1
                generalize H1 = H at hP hS ⊢
                have hP : va_P (dC, dI) vwCl [(lo, .inl (cI, 48, .inl fl)), (hi, .inl (cI, 48, .inl fh)), (qm, .inr (11, [w0, .int fa, .ref lo, .ref hi, .ref nl, .ref nh, .int cq_38, w7, w8, w9, w10, w11, w12, w13, w14, w15, w16, w17, w18, w19, w20, w21, w22, w23, w24, w25, w26, w27, w28, w29, w30, w31, w32, w33, w34, w35, w36, w37, w38])), (nl, .inl (cI, 48, .inl al_36)), (nh, .inl (cI, 48, .inl ah_37))] H := hP
                have hD : va_D _ [(lo, .inl (cI, 48, .inl fl)), (hi, .inl (cI, 48, .inl fh)), (qm, .inr (11, [w0, .int fa, .ref lo, .ref hi, .ref nl, .ref nh, .int cq_38, w7, w8, w9, w10, w11, w12, w13, w14, w15, w16, w17, w18, w19, w20, w21, w22, w23, w24, w25, w26, w27, w28, w29, w30, w31, w32, w33, w34, w35, w36, w37, w38])), (nl, .inl (cI, 48, .inl al_36)), (nh, .inl (cI, 48, .inl ah_37))] := hD
                refine lv_iinc (v := nI (i19 + 1)) (lv' := [(2, .int (nI (i19 + 1))), (0, .ref qm), (1, .int dd)]) hx hb dX11_narrowed_107 hl (k := 0) rfl (nI_1 i19) (by decide) rfl (fun ls hl => ?_)
                refine lv_goto (tgt := 19) hx hb dX11_narrowed_110 (by decide) ?_
                exact ihi19 (i19 + 1) al_36 ah_37 cq_38 _ _ ls (by omega) (by omega) (jst_next (jn4 hd hlti19 (jn3 hd hlti19 (jn2 hd hlti19 (jn1 hd hlti19 hjs hr23) hr27) hr31) hr35) nb_all) (hP.sub [2, 0, 1, 3, 4] rfl) (hD.sub [2, 0, 1, 3, 4] (by decide) rfl) hS (lv_sub hl [0, 1, 2] rfl)
              · skip
                refine lv_bipush (v := (-3)) hx hb dX11_narrowed_40 (by decide) ?_
                subst hQ
                have hP9 := hP.sub (ws' := [(qm, .inr (11, [w0, .int fa, .ref lo, .ref hi, .ref nl, .ref nh, .int cq, w7, w8, w9, w10, w11, w12, w13, w14, w15, w16, w17, w18, w19, w20, w21, w22, w23, w24, w25, w26, w27, w28, w29, w30, w31, w32, w33, w34, w35, w36, w37, w38])), (lo, .inl (cI, 48, .inl fl)), (hi, .inl (cI, 48, .inl fh)), (nl, .inl (cI, 48, .inl bl)), (nh, .inl (cI, 48, .inl bh))]) [0, 1, 2, 3, 4] rfl
                have hD9 := hD.sub (ws' := [(qm, .inr (11, [w0, .int fa, .ref lo, .ref hi, .ref nl, .ref nh, .int cq, w7, w8, w9, w10, w11, w12, w13, w14, w15, w16, w17, w18, w19, w20, w21, w22, w23, w24, w25, w26, w27, w28, w29, w30, w31, w32, w33, w34, w35, w36, w37, w38])), (lo, .inl (cI, 48, .inl fl)), (hi, .inl (cI, 48, .inl fh)), (nl, .inl (cI, 48, .inl bl)), (nh, .inl (cI, 48, .inl bh))]) [0, 1, 2, 3, 4] (by decide) rfl
                have hK9 := hK
                exact W.iret (v := (-3)) hx hb hr (fun t ht hW => ⟨⟨(-3), (fl, fh, bl, bh, cq, fa), rfl, ⟨⟨⟨hjs.2.1.1, hjs.2.1.2⟩, hjs.1⟩, Or.inl ⟨rfl, ⟨i19, hlti19, Int32.not_le.mp c22⟩, rfl, rfl, rfl⟩⟩, by rw [ht]; exact hP9, va_K.moved hW.alike hK9, hD9⟩, hS.F ht⟩) hS.2.2 dX11_narrowed_42
        exact loop19 (48 + 1 - 0) 0 al ah 0 _ _ ls (by omega) (by omega) (jst_start hj) hP hD hS (lv_sub hl [0, 1, 2] rfl)
  exact loop5 ((msum gl gh 48 + (if (1 : Int32) = 0 then 0 else 1)) + 1) gl gh 1 _ _ ls (Nat.lt_succ_self _) ⟨⟨hr1, hr2⟩, minL_rf, maxH_rf⟩ (fun q => absurd q (by decide)) hP hD hS (lv_sub hl [0, 1] rfl)
