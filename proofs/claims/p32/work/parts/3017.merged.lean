set_option maxHeartbeats 4000000 in
set_option maxRecDepth 100000 in
theorem r_narrowed (l : Launch) (dC : Nat → ClassId) (dI : Nat → Nat → Nat) (cI : ClassId) (sz : Nat) (qm : Nat) (w0 : Value) (w7 : Value) (w8 : Value) (w9 : Value) (w10 : Value) (w11 : Value) (w12 : Value) (w13 : Value) (w14 : Value) (w15 : Value) (w16 : Value) (w17 : Value) (w18 : Value) (w19 : Value) (w20 : Value) (w21 : Value) (w22 : Value) (w23 : Value) (w24 : Value) (w25 : Value) (w26 : Value) (w27 : Value) (w28 : Value) (w29 : Value) (w30 : Value) (w31 : Value) (w32 : Value) (w33 : Value) (w34 : Value) (w35 : Value) (w36 : Value) (w37 : Value) (w38 : Value) (nl : Nat) (nh : Nat) (lo : Nat) (hi : Nat) (dd : Int32) (ch0 : Int32) (fa : Int32) (fl : Nat → Int32) (fh : Nat → Int32) (gl : Nat → Int32) (gh : Nat → Int32) (hd : 0 ≤ dd.toInt ∧ dd.toInt ≤ 1000) (hr1 : rngL gl) (hr2 : rngL gh) : Met l yX11_narrowed wsX11_narrowed ({ frames := 3, cells := 0, slots := 0, locals := 90 }) (pw (dC, dI) [(cI, .int)] [(qm, .inr (11, [w0, .int fa, .ref lo, .ref hi, .ref nl, .ref nh, .int ch0, w7, w8, w9, w10, w11, w12, w13, w14, w15, w16, w17, w18, w19, w20, w21, w22, w23, w24, w25, w26, w27, w28, w29, w30, w31, w32, w33, w34, w35, w36, w37, w38])), (lo, .inl (cI, 48, .inl fl)), (hi, .inl (cI, 48, .inl fh)), (nl, .inl (cI, 48, .inl gl)), (nh, .inl (cI, 48, .inl gh))] sz [.ref qm, .int dd]) (va_Qi (fun r (u : (Nat → Int32) × (Nat → Int32) × (Nat → Int32) × (Nat → Int32) × (Int32) × (Int32)) => ((minL dd gl (u.2.2.1) ∧ maxH dd gh (u.2.2.2.1)) ∧ (rngL (u.2.2.1) ∧ rngL (u.2.2.2.1))) ∧ ((r = -3 ∧ (∃ j, j < 48 ∧ (u.2.2.2.1) j < (u.2.2.1) j) ∧ (u.1) = fl ∧ (u.2.1) = fh ∧ (u.2.2.2.2.2) = fa) ∨ (r = nI (fa_cnt (chg fl fh (u.2.2.1) (u.2.2.2.1)) 48) ∧ (∀ j, j < 48 → ¬ (u.2.2.2.1) j < (u.2.2.1) j) ∧ (∀ s n, s < 48 → n < 48 → nbr s n → ((u.2.2.1) n).toInt - dd.toInt ≤ ((u.2.2.1) s).toInt ∧ ((u.2.2.2.1) s).toInt ≤ ((u.2.2.2.1) n).toInt + dd.toInt) ∧ (u.1) = (u.2.2.1) ∧ (u.2.1) = (u.2.2.2.1) ∧ (u.2.2.2.2.2) = dd))) (fun u t => bw (dC, dI) [(cI, .int)] (va_A [(qm, .inr (11, [w0, .int fa, .ref lo, .ref hi, .ref nl, .ref nh, .int ch0, w7, w8, w9, w10, w11, w12, w13, w14, w15, w16, w17, w18, w19, w20, w21, w22, w23, w24, w25, w26, w27, w28, w29, w30, w31, w32, w33, w34, w35, w36, w37, w38])), (lo, .inl (cI, 48, .inl fl)), (hi, .inl (cI, 48, .inl fh)), (nl, .inl (cI, 48, .inl gl)), (nh, .inl (cI, 48, .inl gh))] sz) [(qm, .inr (11, [w0, .int (u.2.2.2.2.2), .ref lo, .ref hi, .ref nl, .ref nh, .int (u.2.2.2.2.1), w7, w8, w9, w10, w11, w12, w13, w14, w15, w16, w17, w18, w19, w20, w21, w22, w23, w24, w25, w26, w27, w28, w29, w30, w31, w32, w33, w34, w35, w36, w37, w38])), (lo, .inl (cI, 48, .inl (u.1))), (hi, .inl (cI, 48, .inl (u.2.1))), (nl, .inl (cI, 48, .inl (u.2.2.1))), (nh, .inl (cI, 48, .inl (u.2.2.2.1)))] t) (va_A [(qm, .inr (11, [w0, .int fa, .ref lo, .ref hi, .ref nl, .ref nh, .int ch0, w7, w8, w9, w10, w11, w12, w13, w14, w15, w16, w17, w18, w19, w20, w21, w22, w23, w24, w25, w26, w27, w28, w29, w30, w31, w32, w33, w34, w35, w36, w37, w38])), (lo, .inl (cI, 48, .inl fl)), (hi, .inl (cI, 48, .inl fh)), (nl, .inl (cI, 48, .inl gl)), (nh, .inl (cI, 48, .inl gh))] sz)) 0 0 (va_A [(qm, .inr (11, [w0, .int fa, .ref lo, .ref hi, .ref nl, .ref nh, .int ch0, w7, w8, w9, w10, w11, w12, w13, w14, w15, w16, w17, w18, w19, w20, w21, w22, w23, w24, w25, w26, w27, w28, w29, w30, w31, w32, w33, w34, w35, w36, w37, w38])), (lo, .inl (cI, 48, .inl fl)), (hi, .inl (cI, 48, .inl fh)), (nl, .inl (cI, 48, .inl gl)), (nh, .inl (cI, 48, .inl gh))] sz) := by
  refine pw_met (cc := cX11_narrowed) (maxL := 4) (ret := (some .int)) (by decide) rfl (Nat.le_of_ble_eq_true rfl) ?_
  intro p e s m below meth c0 hx hb hr hml hown hlocks hnm hts hP hK hD hN hsz hA hS ls hl
  subst hsz
  have hl : lv_has ls 4 [(0, .ref qm), (1, .int dd)] := hl
  have hiX11 : ∀ w ∈ wsX110, w ∈ wsX11_narrowed := fun _ h => List.mem_cons_of_mem _ (List.mem_append_right _ (h))
  generalize hQ : MQ _ _ _ _ _ _ _ = Q
  refine lv_aload_n hx hb dX11_narrowed_0 rfl (lv_at hl 0 rfl) ?_
  refine lv_iconst (v := 1) hx hb dX11_narrowed_1 (by decide) ?_
  refine va_put (D := (dC, dI)) (ci := 11) (v := .int 1) (ty := .boolean) (C := RX11) (T := TX11) (N := 39) hx hb hts hiX11 tyX11 tyX11_ok nmX11 hown hK hP hD hS 0 rfl rfl 6 (by decide) (hts (.fieldLink RX11 117 "TributePitchesModel" "isChanged" "Z") (List.mem_of_getElem? (i := 1) rfl)) (fun _ h9 => h9) rfl (by decide +kernel) rfl rfl (Nat.le_of_ble_eq_true rfl) dX11_narrowed_2 (fun H locs hP hD hS => ?_)
  have hP : va_P (dC, dI) vwCl [(qm, .inr (11, [w0, .int fa, .ref lo, .ref hi, .ref nl, .ref nh, .int 1, w7, w8, w9, w10, w11, w12, w13, w14, w15, w16, w17, w18, w19, w20, w21, w22, w23, w24, w25, w26, w27, w28, w29, w30, w31, w32, w33, w34, w35, w36, w37, w38])), (lo, .inl (cI, 48, .inl fl)), (hi, .inl (cI, 48, .inl fh)), (nl, .inl (cI, 48, .inl gl)), (nh, .inl (cI, 48, .inl gh))] H := hP
  have hD : va_D _ [(qm, .inr (11, [w0, .int fa, .ref lo, .ref hi, .ref nl, .ref nh, .int 1, w7, w8, w9, w10, w11, w12, w13, w14, w15, w16, w17, w18, w19, w20, w21, w22, w23, w24, w25, w26, w27, w28, w29, w30, w31, w32, w33, w34, w35, w36, w37, w38])), (lo, .inl (cI, 48, .inl fl)), (hi, .inl (cI, 48, .inl fh)), (nl, .inl (cI, 48, .inl gl)), (nh, .inl (cI, 48, .inl gh))] := hD
  have loop5 : ∀ (ni5 : Nat) (al : Nat → Int32) (ah : Nat → Int32) (ch : Int32) (H : Heap) (locs : List Loc) (ls : Array Slot), (msum al ah 48 + (if ch = 0 then 0 else 1)) < ni5 → ((rngL al ∧ rngL ah) ∧ (minL dd gl al ∧ maxH dd gh ah)) → (ch = 0 → (∀ s n, s < 48 → n < 48 → nbr s n → (al n).toInt - dd.toInt ≤ (al s).toInt ∧ (ah s).toInt ≤ (ah n).toInt + dd.toInt)) → va_P (dC, dI) vwCl [(qm, .inr (11, [w0, .int fa, .ref lo, .ref hi, .ref nl, .ref nh, .int ch, w7, w8, w9, w10, w11, w12, w13, w14, w15, w16, w17, w18, w19, w20, w21, w22, w23, w24, w25, w26, w27, w28, w29, w30, w31, w32, w33, w34, w35, w36, w37, w38])), (lo, .inl (cI, 48, .inl fl)), (hi, .inl (cI, 48, .inl fh)), (nl, .inl (cI, 48, .inl al)), (nh, .inl (cI, 48, .inl ah))] H → va_D (va_A [(qm, .inr (11, [w0, .int fa, .ref lo, .ref hi, .ref nl, .ref nh, .int ch0, w7, w8, w9, w10, w11, w12, w13, w14, w15, w16, w17, w18, w19, w20, w21, w22, w23, w24, w25, w26, w27, w28, w29, w30, w31, w32, w33, w34, w35, w36, w37, w38])), (lo, .inl (cI, 48, .inl fl)), (hi, .inl (cI, 48, .inl fh)), (nl, .inl (cI, 48, .inl gl)), (nh, .inl (cI, 48, .inl gh))] s.heap.size) [(qm, .inr (11, [w0, .int fa, .ref lo, .ref hi, .ref nl, .ref nh, .int ch, w7, w8, w9, w10, w11, w12, w13, w14, w15, w16, w17, w18, w19, w20, w21, w22, w23, w24, w25, w26, w27, w28, w29, w30, w31, w32, w33, w34, w35, w36, w37, w38])), (lo, .inl (cI, 48, .inl fl)), (hi, .inl (cI, 48, .inl fh)), (nl, .inl (cI, 48, .inl al)), (nh, .inl (cI, 48, .inl ah))] → va_S (va_A [(qm, .inr (11, [w0, .int fa, .ref lo, .ref hi, .ref nl, .ref nh, .int ch0, w7, w8, w9, w10, w11, w12, w13, w14, w15, w16, w17, w18, w19, w20, w21, w22, w23, w24, w25, w26, w27, w28, w29, w30, w31, w32, w33, w34, w35, w36, w37, w38])), (lo, .inl (cI, 48, .inl fl)), (hi, .inl (cI, 48, .inl fh)), (nl, .inl (cI, 48, .inl gl)), (nh, .inl (cI, 48, .inl gh))] s.heap.size) s.heap H locs → lv_has ls 4 [(0, .ref qm), (1, .int dd)] → W p l e ({ frames := 3, cells := 0, slots := 0, locals := 90 } : Room) s m ([.ref qm, .int dd] : List Value).toArray below meth c0 H locs 0 0 Q (F0 m 5 ls []) := by
    intro ni5
    induction ni5 with
    | zero =>
      intro al ah ch H locs ls h1
      exact absurd h1 (Nat.not_lt_zero _)
    | succ ni5 ihi5 =>
      intro al ah ch H locs ls hfi5 hj hcl hP hD hS hl
      refine lv_aload_n hx hb dX11_narrowed_5 rfl (lv_at hl 0 rfl) ?_
      refine va_get (D := (dC, dI)) (ci := 11) (v := .int ch) (C := RX11) (T := TX11) (N := 39) hx hb hts hiX11 hown hK hP 0 rfl rfl 6 (by decide) (hts (.fieldLink RX11 117 "TributePitchesModel" "isChanged" "Z") (List.mem_of_getElem? (i := 1) rfl)) (fun _ h9 => h9) rfl dX11_narrowed_6 ?_
      refine lv_if_eq (tgt := 116) hx hb dX11_narrowed_9 (by decide) (fun c1 => ?_) (fun c1 => ?_)
      · skip
        have hc0 : ch = 0 := c1
        refine lv_iconst (v := 0) hx hb dX11_narrowed_116 (by decide) ?_
        refine lv_istore_n (lv' := [(2, .int 0), (0, .ref qm), (1, .int dd)]) hx hb dX11_narrowed_117 rfl hl (by decide) rfl (fun ls hl => ?_)
        refine lv_iconst (v := 0) hx hb dX11_narrowed_118 (by decide) ?_
        refine lv_istore_n (lv' := [(3, .int 0), (2, .int 0), (0, .ref qm), (1, .int dd)]) hx hb dX11_narrowed_119 rfl hl (by decide) rfl (fun ls hl => ?_)
        have loop120 : ∀ (ni120 i120 : Nat) (H : Heap) (locs : List Loc) (ls : Array Slot), i120 ≤ 48 → 48 + 1 ≤ i120 + ni120 → (∀ j, j < i120 → ¬ ah j < al j) → va_P (dC, dI) vwCl [(qm, .inr (11, [w0, .int fa, .ref lo, .ref hi, .ref nl, .ref nh, .int ch, w7, w8, w9, w10, w11, w12, w13, w14, w15, w16, w17, w18, w19, w20, w21, w22, w23, w24, w25, w26, w27, w28, w29, w30, w31, w32, w33, w34, w35, w36, w37, w38])), (lo, .inl (cI, 48, .inl fl)), (hi, .inl (cI, 48, .inl fh)), (nl, .inl (cI, 48, .inl al)), (nh, .inl (cI, 48, .inl ah))] H → va_D (va_A [(qm, .inr (11, [w0, .int fa, .ref lo, .ref hi, .ref nl, .ref nh, .int ch0, w7, w8, w9, w10, w11, w12, w13, w14, w15, w16, w17, w18, w19, w20, w21, w22, w23, w24, w25, w26, w27, w28, w29, w30, w31, w32, w33, w34, w35, w36, w37, w38])), (lo, .inl (cI, 48, .inl fl)), (hi, .inl (cI, 48, .inl fh)), (nl, .inl (cI, 48, .inl gl)), (nh, .inl (cI, 48, .inl gh))] s.heap.size) [(qm, .inr (11, [w0, .int fa, .ref lo, .ref hi, .ref nl, .ref nh, .int ch, w7, w8, w9, w10, w11, w12, w13, w14, w15, w16, w17, w18, w19, w20, w21, w22, w23, w24, w25, w26, w27, w28, w29, w30, w31, w32, w33, w34, w35, w36, w37, w38])), (lo, .inl (cI, 48, .inl fl)), (hi, .inl (cI, 48, .inl fh)), (nl, .inl (cI, 48, .inl al)), (nh, .inl (cI, 48, .inl ah))] → va_S (va_A [(qm, .inr (11, [w0, .int fa, .ref lo, .ref hi, .ref nl, .ref nh, .int ch0, w7, w8, w9, w10, w11, w12, w13, w14, w15, w16, w17, w18, w19, w20, w21, w22, w23, w24, w25, w26, w27, w28, w29, w30, w31, w32, w33, w34, w35, w36, w37, w38])), (lo, .inl (cI, 48, .inl fl)), (hi, .inl (cI, 48, .inl fh)), (nl, .inl (cI, 48, .inl gl)), (nh, .inl (cI, 48, .inl gh))] s.heap.size) s.heap H locs → lv_has ls 4 [(3, .int (nI i120)), (2, .int 0), (0, .ref qm), (1, .int dd)] → W p l e ({ frames := 3, cells := 0, slots := 0, locals := 90 } : Room) s m ([.ref qm, .int dd] : List Value).toArray below meth c0 H locs 0 0 Q (F0 m 120 ls []) := by
          intro ni120
          induction ni120 with
          | zero =>
            intro i120  H locs ls h1 h2
            exact absurd h2 (by omega)
          | succ ni120 ihi120 =>
            intro i120  H locs ls hlei120 hni120 hall hP hD hS hl
            refine lv_iload_n hx hb dX11_narrowed_120 rfl (lv_at hl 0 rfl) ?_
            refine lv_bipush (v := 48) hx hb dX11_narrowed_121 (by decide) ?_
            refine lv_icmp_ge (tgt := 150) hx hb dX11_narrowed_123 (by decide) (fun c2 => ?_) (fun c2 => ?_)
            · skip
              have hei120 : i120 = 48 := (Nat.lt_or_ge i120 48).elim (fun q => absurd c2 (show ¬ nI 48 ≤ nI i120 from nI_ge q (by omega))) (fun q => by omega)
              have hallN : ∀ j, j < 48 → ¬ ah j < al j := (by rw [← hei120]; exact hall)
              refine lv_iconst (v := 0) hx hb dX11_narrowed_150 (by decide) ?_
              refine lv_istore_n (lv' := [(3, .int 0), (2, .int 0), (0, .ref qm), (1, .int dd)]) hx hb dX11_narrowed_151 rfl hl (by decide) rfl (fun ls hl => ?_)
              have hP := va_P_cg hP 1 (fa_fill al fl 0) rfl (fun j _ => (congrFun (fa_fill_0 al fl) j).symm)
              have hD := va_D_cg hD 1 (fa_fill al fl 0) rfl
              have hP : va_P (dC, dI) vwCl [(qm, .inr (11, [w0, .int fa, .ref lo, .ref hi, .ref nl, .ref nh, .int ch, w7, w8, w9, w10, w11, w12, w13, w14, w15, w16, w17, w18, w19, w20, w21, w22, w23, w24, w25, w26, w27, w28, w29, w30, w31, w32, w33, w34, w35, w36, w37, w38])), (lo, .inl (cI, 48, .inl (fa_fill al fl 0))), (hi, .inl (cI, 48, .inl fh)), (nl, .inl (cI, 48, .inl al)), (nh, .inl (cI, 48, .inl ah))] H := hP
              have hD : va_D _ [(qm, .inr (11, [w0, .int fa, .ref lo, .ref hi, .ref nl, .ref nh, .int ch, w7, w8, w9, w10, w11, w12, w13, w14, w15, w16, w17, w18, w19, w20, w21, w22, w23, w24, w25, w26, w27, w28, w29, w30, w31, w32, w33, w34, w35, w36, w37, w38])), (lo, .inl (cI, 48, .inl (fa_fill al fl 0))), (hi, .inl (cI, 48, .inl fh)), (nl, .inl (cI, 48, .inl al)), (nh, .inl (cI, 48, .inl ah))] := hD
              have hP := va_P_cg hP 2 (fa_fill ah fh 0) rfl (fun j _ => (congrFun (fa_fill_0 ah fh) j).symm)
              have hD := va_D_cg hD 2 (fa_fill ah fh 0) rfl
              have hP : va_P (dC, dI) vwCl [(qm, .inr (11, [w0, .int fa, .ref lo, .ref hi, .ref nl, .ref nh, .int ch, w7, w8, w9, w10, w11, w12, w13, w14, w15, w16, w17, w18, w19, w20, w21, w22, w23, w24, w25, w26, w27, w28, w29, w30, w31, w32, w33, w34, w35, w36, w37, w38])), (lo, .inl (cI, 48, .inl (fa_fill al fl 0))), (hi, .inl (cI, 48, .inl (fa_fill ah fh 0))), (nl, .inl (cI, 48, .inl al)), (nh, .inl (cI, 48, .inl ah))] H := hP
              have hD : va_D _ [(qm, .inr (11, [w0, .int fa, .ref lo, .ref hi, .ref nl, .ref nh, .int ch, w7, w8, w9, w10, w11, w12, w13, w14, w15, w16, w17, w18, w19, w20, w21, w22, w23, w24, w25, w26, w27, w28, w29, w30, w31, w32, w33, w34, w35, w36, w37, w38])), (lo, .inl (cI, 48, .inl (fa_fill al fl 0))), (hi, .inl (cI, 48, .inl (fa_fill ah fh 0))), (nl, .inl (cI, 48, .inl al)), (nh, .inl (cI, 48, .inl ah))] := hD
              have loop152 : ∀ (ni152 i152 : Nat) (H : Heap) (locs : List Loc) (ls : Array Slot), i152 ≤ 48 → 48 + 1 ≤ i152 + ni152 → va_P (dC, dI) vwCl [(qm, .inr (11, [w0, .int fa, .ref lo, .ref hi, .ref nl, .ref nh, .int ch, w7, w8, w9, w10, w11, w12, w13, w14, w15, w16, w17, w18, w19, w20, w21, w22, w23, w24, w25, w26, w27, w28, w29, w30, w31, w32, w33, w34, w35, w36, w37, w38])), (lo, .inl (cI, 48, .inl (fa_fill al fl i152))), (hi, .inl (cI, 48, .inl (fa_fill ah fh i152))), (nl, .inl (cI, 48, .inl al)), (nh, .inl (cI, 48, .inl ah))] H → va_D (va_A [(qm, .inr (11, [w0, .int fa, .ref lo, .ref hi, .ref nl, .ref nh, .int ch0, w7, w8, w9, w10, w11, w12, w13, w14, w15, w16, w17, w18, w19, w20, w21, w22, w23, w24, w25, w26, w27, w28, w29, w30, w31, w32, w33, w34, w35, w36, w37, w38])), (lo, .inl (cI, 48, .inl fl)), (hi, .inl (cI, 48, .inl fh)), (nl, .inl (cI, 48, .inl gl)), (nh, .inl (cI, 48, .inl gh))] s.heap.size) [(qm, .inr (11, [w0, .int fa, .ref lo, .ref hi, .ref nl, .ref nh, .int ch, w7, w8, w9, w10, w11, w12, w13, w14, w15, w16, w17, w18, w19, w20, w21, w22, w23, w24, w25, w26, w27, w28, w29, w30, w31, w32, w33, w34, w35, w36, w37, w38])), (lo, .inl (cI, 48, .inl (fa_fill al fl i152))), (hi, .inl (cI, 48, .inl (fa_fill ah fh i152))), (nl, .inl (cI, 48, .inl al)), (nh, .inl (cI, 48, .inl ah))] → va_S (va_A [(qm, .inr (11, [w0, .int fa, .ref lo, .ref hi, .ref nl, .ref nh, .int ch0, w7, w8, w9, w10, w11, w12, w13, w14, w15, w16, w17, w18, w19, w20, w21, w22, w23, w24, w25, w26, w27, w28, w29, w30, w31, w32, w33, w34, w35, w36, w37, w38])), (lo, .inl (cI, 48, .inl fl)), (hi, .inl (cI, 48, .inl fh)), (nl, .inl (cI, 48, .inl gl)), (nh, .inl (cI, 48, .inl gh))] s.heap.size) s.heap H locs → lv_has ls 4 [(3, .int (nI i152)), (2, .int (nI (fa_cnt (chg fl fh al ah) i152))), (0, .ref qm), (1, .int dd)] → W p l e ({ frames := 3, cells := 0, slots := 0, locals := 90 } : Room) s m ([.ref qm, .int dd] : List Value).toArray below meth c0 H locs 0 0 Q (F0 m 152 ls []) := by
                intro ni152
                induction ni152 with
                | zero =>
                  intro i152  H locs ls h1 h2
                  exact absurd h2 (by omega)
                | succ ni152 ihi152 =>
                  intro i152  H locs ls hlei152 hni152  hP hD hS hl
                  refine lv_iload_n hx hb dX11_narrowed_152 rfl (lv_at hl 0 rfl) ?_
                  refine lv_bipush (v := 48) hx hb dX11_narrowed_153 (by decide) ?_
                  refine lv_icmp_ge (tgt := 226) hx hb dX11_narrowed_155 (by decide) (fun c3 => ?_) (fun c3 => ?_)
                  · skip
                    have hei152 : i152 = 48 := (Nat.lt_or_ge i152 48).elim (fun q => absurd c3 (show ¬ nI 48 ≤ nI i152 from nI_ge q (by omega))) (fun q => by omega)
                    have hP := va_P_cg hP 1 al rfl (fun j hj => fa_fill_in (by omega))
                    have hD := va_D_cg hD 1 al rfl
                    have hP : va_P (dC, dI) vwCl [(qm, .inr (11, [w0, .int fa, .ref lo, .ref hi, .ref nl, .ref nh, .int ch, w7, w8, w9, w10, w11, w12, w13, w14, w15, w16, w17, w18, w19, w20, w21, w22, w23, w24, w25, w26, w27, w28, w29, w30, w31, w32, w33, w34, w35, w36, w37, w38])), (lo, .inl (cI, 48, .inl al)), (hi, .inl (cI, 48, .inl (fa_fill ah fh i152))), (nl, .inl (cI, 48, .inl al)), (nh, .inl (cI, 48, .inl ah))] H := hP
                    have hD : va_D _ [(qm, .inr (11, [w0, .int fa, .ref lo, .ref hi, .ref nl, .ref nh, .int ch, w7, w8, w9, w10, w11, w12, w13, w14, w15, w16, w17, w18, w19, w20, w21, w22, w23, w24, w25, w26, w27, w28, w29, w30, w31, w32, w33, w34, w35, w36, w37, w38])), (lo, .inl (cI, 48, .inl al)), (hi, .inl (cI, 48, .inl (fa_fill ah fh i152))), (nl, .inl (cI, 48, .inl al)), (nh, .inl (cI, 48, .inl ah))] := hD
                    have hP := va_P_cg hP 2 ah rfl (fun j hj => fa_fill_in (by omega))
                    have hD := va_D_cg hD 2 ah rfl
                    have hP : va_P (dC, dI) vwCl [(qm, .inr (11, [w0, .int fa, .ref lo, .ref hi, .ref nl, .ref nh, .int ch, w7, w8, w9, w10, w11, w12, w13, w14, w15, w16, w17, w18, w19, w20, w21, w22, w23, w24, w25, w26, w27, w28, w29, w30, w31, w32, w33, w34, w35, w36, w37, w38])), (lo, .inl (cI, 48, .inl al)), (hi, .inl (cI, 48, .inl ah)), (nl, .inl (cI, 48, .inl al)), (nh, .inl (cI, 48, .inl ah))] H := hP
                    have hD : va_D _ [(qm, .inr (11, [w0, .int fa, .ref lo, .ref hi, .ref nl, .ref nh, .int ch, w7, w8, w9, w10, w11, w12, w13, w14, w15, w16, w17, w18, w19, w20, w21, w22, w23, w24, w25, w26, w27, w28, w29, w30, w31, w32, w33, w34, w35, w36, w37, w38])), (lo, .inl (cI, 48, .inl al)), (hi, .inl (cI, 48, .inl ah)), (nl, .inl (cI, 48, .inl al)), (nh, .inl (cI, 48, .inl ah))] := hD
                    refine lv_aload_n hx hb dX11_narrowed_226 rfl (lv_at hl 2 rfl) ?_
                    refine lv_iload_n hx hb dX11_narrowed_227 rfl (lv_at hl 3 rfl) ?_
                    refine va_put (D := (dC, dI)) (ci := 11) (v := .int dd) (ty := .int) (C := RX11) (T := TX11) (N := 39) hx hb hts hiX11 tyX11 tyX11_ok nmX11 hown hK hP hD hS 0 rfl rfl 1 (by decide) (hts (.fieldLink RX11 93 "TributePitchesModel" "far" "I") (List.mem_of_getElem? (i := 6) rfl)) (fun _ h9 => h9) rfl (by decide +kernel) rfl rfl (Nat.le_of_ble_eq_true rfl) dX11_narrowed_228 (fun H locs hP hD hS => ?_)
                    have hP : va_P (dC, dI) vwCl [(qm, .inr (11, [w0, .int dd, .ref lo, .ref hi, .ref nl, .ref nh, .int ch, w7, w8, w9, w10, w11, w12, w13, w14, w15, w16, w17, w18, w19, w20, w21, w22, w23, w24, w25, w26, w27, w28, w29, w30, w31, w32, w33, w34, w35, w36, w37, w38])), (lo, .inl (cI, 48, .inl al)), (hi, .inl (cI, 48, .inl ah)), (nl, .inl (cI, 48, .inl al)), (nh, .inl (cI, 48, .inl ah))] H := hP
                    have hD : va_D _ [(qm, .inr (11, [w0, .int dd, .ref lo, .ref hi, .ref nl, .ref nh, .int ch, w7, w8, w9, w10, w11, w12, w13, w14, w15, w16, w17, w18, w19, w20, w21, w22, w23, w24, w25, w26, w27, w28, w29, w30, w31, w32, w33, w34, w35, w36, w37, w38])), (lo, .inl (cI, 48, .inl al)), (hi, .inl (cI, 48, .inl ah)), (nl, .inl (cI, 48, .inl al)), (nh, .inl (cI, 48, .inl ah))] := hD
                    refine lv_iload_n hx hb dX11_narrowed_231 rfl (lv_at hl 1 rfl) ?_
                    subst hQ
                    have hP9 := hP.sub (ws' := [(qm, .inr (11, [w0, .int dd, .ref lo, .ref hi, .ref nl, .ref nh, .int ch, w7, w8, w9, w10, w11, w12, w13, w14, w15, w16, w17, w18, w19, w20, w21, w22, w23, w24, w25, w26, w27, w28, w29, w30, w31, w32, w33, w34, w35, w36, w37, w38])), (lo, .inl (cI, 48, .inl al)), (hi, .inl (cI, 48, .inl ah)), (nl, .inl (cI, 48, .inl al)), (nh, .inl (cI, 48, .inl ah))]) [0, 1, 2, 3, 4] rfl
                    have hD9 := hD.sub (ws' := [(qm, .inr (11, [w0, .int dd, .ref lo, .ref hi, .ref nl, .ref nh, .int ch, w7, w8, w9, w10, w11, w12, w13, w14, w15, w16, w17, w18, w19, w20, w21, w22, w23, w24, w25, w26, w27, w28, w29, w30, w31, w32, w33, w34, w35, w36, w37, w38])), (lo, .inl (cI, 48, .inl al)), (hi, .inl (cI, 48, .inl ah)), (nl, .inl (cI, 48, .inl al)), (nh, .inl (cI, 48, .inl ah))]) [0, 1, 2, 3, 4] (by decide) rfl
                    have hK9 := hK
                    exact W.iret (v := nI (fa_cnt (chg fl fh al ah) i152)) hx hb hr (fun t ht hW => ⟨⟨nI (fa_cnt (chg fl fh al ah) i152), (al, ah, al, ah, ch, dd), rfl, ⟨⟨⟨hj.2.1, hj.2.2⟩, hj.1⟩, Or.inr ⟨by rw [hei152], hallN, hcl hc0, rfl, rfl, rfl⟩⟩, by rw [ht]; exact hP9, va_K.moved hW.alike hK9, hD9⟩, hS.F ht⟩) hS.2.2 dX11_narrowed_232
                  · skip
                    have hlti152 : i152 < 48 := (Nat.lt_or_ge i152 48).elim id (fun q => absurd (show nI 48 ≤ nI i152 from nI_le q (by omega)) c3)
                    refine lv_iload_n hx hb dX11_narrowed_158 rfl (lv_at hl 1 rfl) ?_
                    refine lv_aload_n hx hb dX11_narrowed_159 rfl (lv_at hl 2 rfl) ?_
                    refine va_get (D := (dC, dI)) (ci := 11) (v := .ref nl) (C := RX11) (T := TX11) (N := 39) hx hb hts hiX11 hown hK hP 0 rfl rfl 4 (by decide) (hts (.fieldLink RX11 16 "TributePitchesModel" "newLow" "[I") (List.mem_of_getElem? (i := 2) rfl)) (fun _ h9 => h9) rfl dX11_narrowed_160 ?_
                    refine lv_iload_n hx hb dX11_narrowed_163 rfl (lv_at hl 0 rfl) ?_
                    refine va_iald hx hb hK hP 3 0 rfl rfl (vp_in_nI (by omega) (by omega)) dX11_narrowed_164 ?_
                    refine lv_topi (fun v4 ev4 => ?_)
                    have ev4 : v4 = al i152 := by rw [ev4]; rw [nI_clamp (by omega)]
                    subst ev4
                    refine lv_aload_n hx hb dX11_narrowed_165 rfl (lv_at hl 2 rfl) ?_
                    refine va_get (D := (dC, dI)) (ci := 11) (v := .ref lo) (C := RX11) (T := TX11) (N := 39) hx hb hts hiX11 hown hK hP 0 rfl rfl 2 (by decide) (hts (.fieldLink RX11 7 "TributePitchesModel" "low" "[I") (List.mem_of_getElem? (i := 4) rfl)) (fun _ h9 => h9) rfl dX11_narrowed_166 ?_
                    refine lv_iload_n hx hb dX11_narrowed_169 rfl (lv_at hl 0 rfl) ?_
                    refine va_iald hx hb hK hP 1 0 rfl rfl (vp_in_nI (by omega) (by omega)) dX11_narrowed_170 ?_
                    refine lv_topi (fun v5 ev5 => ?_)
                    have ev5 : v5 = fl i152 := by rw [ev5]; rw [nI_clamp (by omega)]; exact fa_fill_out (Nat.le_refl _)
                    subst ev5
                    refine lv_icmp_ne (tgt := 189) hx hb dX11_narrowed_171 (by decide) (fun c6 => ?_) (fun c6 => ?_)
                    · skip
                      refine lv_iconst (v := 1) hx hb dX11_narrowed_189 (by decide) ?_
                      refine lv_goto (tgt := 194) hx hb dX11_narrowed_190 (by decide) ?_
                      refine lv_iadd hx hb dX11_narrowed_194 ?_
                      refine lv_topi (fun v194 ev194 => ?_)
                      have ev194 : v194 = nI (fa_cnt (chg fl fh al ah) (i152 + 1)) := by rw [ev194]; rw [fa_cnt_yes (by simp [chg, c3, c6])]; exact nI_1 _
                      subst ev194
                      refine lv_istore_n (lv' := [(2, .int (nI (fa_cnt (chg fl fh al ah) (i152 + 1)))), (3, .int (nI i152)), (0, .ref qm), (1, .int dd)]) hx hb dX11_narrowed_195 rfl hl (by decide) rfl (fun ls hl => ?_)
                      refine lv_aload_n hx hb dX11_narrowed_196 rfl (lv_at hl 2 rfl) ?_
                      refine va_get (D := (dC, dI)) (ci := 11) (v := .ref lo) (C := RX11) (T := TX11) (N := 39) hx hb hts hiX11 hown hK hP 0 rfl rfl 2 (by decide) (hts (.fieldLink RX11 7 "TributePitchesModel" "low" "[I") (List.mem_of_getElem? (i := 4) rfl)) (fun _ h9 => h9) rfl dX11_narrowed_197 ?_
                      refine lv_iload_n hx hb dX11_narrowed_200 rfl (lv_at hl 1 rfl) ?_
                      refine lv_aload_n hx hb dX11_narrowed_201 rfl (lv_at hl 2 rfl) ?_
                      refine va_get (D := (dC, dI)) (ci := 11) (v := .ref nl) (C := RX11) (T := TX11) (N := 39) hx hb hts hiX11 hown hK hP 0 rfl rfl 4 (by decide) (hts (.fieldLink RX11 16 "TributePitchesModel" "newLow" "[I") (List.mem_of_getElem? (i := 2) rfl)) (fun _ h9 => h9) rfl dX11_narrowed_202 ?_
                      refine lv_iload_n hx hb dX11_narrowed_205 rfl (lv_at hl 1 rfl) ?_
                      refine va_iald hx hb hK hP 3 0 rfl rfl (vp_in_nI (by omega) (by omega)) dX11_narrowed_206 ?_
                      refine lv_topi (fun v7 ev7 => ?_)
                      have ev7 : v7 = al i152 := by rw [ev7]; rw [nI_clamp (by omega)]
                      subst ev7
                      refine va_iast hx hb hK hP hD hS 1 0 rfl rfl (vp_in_nI (by omega) (by omega)) dX11_narrowed_207 (fun H locs hP hD hS => ?_)
                      have hP : va_P (dC, dI) vwCl [(qm, .inr (11, [w0, .int fa, .ref lo, .ref hi, .ref nl, .ref nh, .int ch, w7, w8, w9, w10, w11, w12, w13, w14, w15, w16, w17, w18, w19, w20, w21, w22, w23, w24, w25, w26, w27, w28, w29, w30, w31, w32, w33, w34, w35, w36, w37, w38])), (lo, .inl (cI, 48, .inl (upd (fa_fill al fl i152) (nI i152).toNatClampNeg (al i152)))), (hi, .inl (cI, 48, .inl (fa_fill ah fh i152))), (nl, .inl (cI, 48, .inl al)), (nh, .inl (cI, 48, .inl ah))] H := hP
                      have hD : va_D _ [(qm, .inr (11, [w0, .int fa, .ref lo, .ref hi, .ref nl, .ref nh, .int ch, w7, w8, w9, w10, w11, w12, w13, w14, w15, w16, w17, w18, w19, w20, w21, w22, w23, w24, w25, w26, w27, w28, w29, w30, w31, w32, w33, w34, w35, w36, w37, w38])), (lo, .inl (cI, 48, .inl (upd (fa_fill al fl i152) (nI i152).toNatClampNeg (al i152)))), (hi, .inl (cI, 48, .inl (fa_fill ah fh i152))), (nl, .inl (cI, 48, .inl al)), (nh, .inl (cI, 48, .inl ah))] := hD
                      have hP := va_P_cg hP 1 (fa_fill al fl (i152 + 1)) rfl (fun j _ => by rw [nI_clamp (by omega)]; exact congrFun (fa_fill_succ al fl i152) j)
                      have hD := va_D_cg hD 1 (fa_fill al fl (i152 + 1)) rfl
                      have hP : va_P (dC, dI) vwCl [(qm, .inr (11, [w0, .int fa, .ref lo, .ref hi, .ref nl, .ref nh, .int ch, w7, w8, w9, w10, w11, w12, w13, w14, w15, w16, w17, w18, w19, w20, w21, w22, w23, w24, w25, w26, w27, w28, w29, w30, w31, w32, w33, w34, w35, w36, w37, w38])), (lo, .inl (cI, 48, .inl (fa_fill al fl (i152 + 1)))), (hi, .inl (cI, 48, .inl (fa_fill ah fh i152))), (nl, .inl (cI, 48, .inl al)), (nh, .inl (cI, 48, .inl ah))] H := hP
                      have hD : va_D _ [(qm, .inr (11, [w0, .int fa, .ref lo, .ref hi, .ref nl, .ref nh, .int ch, w7, w8, w9, w10, w11, w12, w13, w14, w15, w16, w17, w18, w19, w20, w21, w22, w23, w24, w25, w26, w27, w28, w29, w30, w31, w32, w33, w34, w35, w36, w37, w38])), (lo, .inl (cI, 48, .inl (fa_fill al fl (i152 + 1)))), (hi, .inl (cI, 48, .inl (fa_fill ah fh i152))), (nl, .inl (cI, 48, .inl al)), (nh, .inl (cI, 48, .inl ah))] := hD
                      refine lv_aload_n hx hb dX11_narrowed_208 rfl (lv_at hl 2 rfl) ?_
                      refine va_get (D := (dC, dI)) (ci := 11) (v := .ref hi) (C := RX11) (T := TX11) (N := 39) hx hb hts hiX11 hown hK hP 0 rfl rfl 3 (by decide) (hts (.fieldLink RX11 13 "TributePitchesModel" "high" "[I") (List.mem_of_getElem? (i := 5) rfl)) (fun _ h9 => h9) rfl dX11_narrowed_209 ?_
                      refine lv_iload_n hx hb dX11_narrowed_212 rfl (lv_at hl 1 rfl) ?_
                      refine lv_aload_n hx hb dX11_narrowed_213 rfl (lv_at hl 2 rfl) ?_
                      refine va_get (D := (dC, dI)) (ci := 11) (v := .ref nh) (C := RX11) (T := TX11) (N := 39) hx hb hts hiX11 hown hK hP 0 rfl rfl 5 (by decide) (hts (.fieldLink RX11 19 "TributePitchesModel" "newHigh" "[I") (List.mem_of_getElem? (i := 3) rfl)) (fun _ h9 => h9) rfl dX11_narrowed_214 ?_
                      refine lv_iload_n hx hb dX11_narrowed_217 rfl (lv_at hl 1 rfl) ?_
                      refine va_iald hx hb hK hP 4 0 rfl rfl (vp_in_nI (by omega) (by omega)) dX11_narrowed_218 ?_
                      refine lv_topi (fun v8 ev8 => ?_)
                      have ev8 : v8 = ah i152 := by rw [ev8]; rw [nI_clamp (by omega)]
                      subst ev8
                      refine va_iast hx hb hK hP hD hS 2 0 rfl rfl (vp_in_nI (by omega) (by omega)) dX11_narrowed_219 (fun H locs hP hD hS => ?_)
                      have hP : va_P (dC, dI) vwCl [(qm, .inr (11, [w0, .int fa, .ref lo, .ref hi, .ref nl, .ref nh, .int ch, w7, w8, w9, w10, w11, w12, w13, w14, w15, w16, w17, w18, w19, w20, w21, w22, w23, w24, w25, w26, w27, w28, w29, w30, w31, w32, w33, w34, w35, w36, w37, w38])), (lo, .inl (cI, 48, .inl (fa_fill al fl (i152 + 1)))), (hi, .inl (cI, 48, .inl (upd (fa_fill ah fh i152) (nI i152).toNatClampNeg (ah i152)))), (nl, .inl (cI, 48, .inl al)), (nh, .inl (cI, 48, .inl ah))] H := hP
                      have hD : va_D _ [(qm, .inr (11, [w0, .int fa, .ref lo, .ref hi, .ref nl, .ref nh, .int ch, w7, w8, w9, w10, w11, w12, w13, w14, w15, w16, w17, w18, w19, w20, w21, w22, w23, w24, w25, w26, w27, w28, w29, w30, w31, w32, w33, w34, w35, w36, w37, w38])), (lo, .inl (cI, 48, .inl (fa_fill al fl (i152 + 1)))), (hi, .inl (cI, 48, .inl (upd (fa_fill ah fh i152) (nI i152).toNatClampNeg (ah i152)))), (nl, .inl (cI, 48, .inl al)), (nh, .inl (cI, 48, .inl ah))] := hD
                      have hP := va_P_cg hP 2 (fa_fill ah fh (i152 + 1)) rfl (fun j _ => by rw [nI_clamp (by omega)]; exact congrFun (fa_fill_succ ah fh i152) j)
                      have hD := va_D_cg hD 2 (fa_fill ah fh (i152 + 1)) rfl
                      have hP : va_P (dC, dI) vwCl [(qm, .inr (11, [w0, .int fa, .ref lo, .ref hi, .ref nl, .ref nh, .int ch, w7, w8, w9, w10, w11, w12, w13, w14, w15, w16, w17, w18, w19, w20, w21, w22, w23, w24, w25, w26, w27, w28, w29, w30, w31, w32, w33, w34, w35, w36, w37, w38])), (lo, .inl (cI, 48, .inl (fa_fill al fl (i152 + 1)))), (hi, .inl (cI, 48, .inl (fa_fill ah fh (i152 + 1)))), (nl, .inl (cI, 48, .inl al)), (nh, .inl (cI, 48, .inl ah))] H := hP
                      have hD : va_D _ [(qm, .inr (11, [w0, .int fa, .ref lo, .ref hi, .ref nl, .ref nh, .int ch, w7, w8, w9, w10, w11, w12, w13, w14, w15, w16, w17, w18, w19, w20, w21, w22, w23, w24, w25, w26, w27, w28, w29, w30, w31, w32, w33, w34, w35, w36, w37, w38])), (lo, .inl (cI, 48, .inl (fa_fill al fl (i152 + 1)))), (hi, .inl (cI, 48, .inl (fa_fill ah fh (i152 + 1)))), (nl, .inl (cI, 48, .inl al)), (nh, .inl (cI, 48, .inl ah))] := hD
                      refine lv_iinc (v := nI (i152 + 1)) (lv' := [(3, .int (nI (i152 + 1))), (2, .int (nI (fa_cnt (chg fl fh al ah) (i152 + 1)))), (0, .ref qm), (1, .int dd)]) hx hb dX11_narrowed_220 hl (k := 1) rfl (nI_1 i152) (by decide) rfl (fun ls hl => ?_)
                      refine lv_goto (tgt := 152) hx hb dX11_narrowed_223 (by decide) ?_
                      exact ihi152 (i152 + 1)  _ _ ls (by omega) (by omega)  (hP.sub [0, 1, 2, 3, 4] rfl) (hD.sub [0, 1, 2, 3, 4] (by decide) rfl) hS (lv_sub hl [0, 1, 2, 3] rfl)
                    · skip
                      refine lv_aload_n hx hb dX11_narrowed_174 rfl (lv_at hl 2 rfl) ?_
                      refine va_get (D := (dC, dI)) (ci := 11) (v := .ref nh) (C := RX11) (T := TX11) (N := 39) hx hb hts hiX11 hown hK hP 0 rfl rfl 5 (by decide) (hts (.fieldLink RX11 19 "TributePitchesModel" "newHigh" "[I") (List.mem_of_getElem? (i := 3) rfl)) (fun _ h9 => h9) rfl dX11_narrowed_175 ?_
                      refine lv_iload_n hx hb dX11_narrowed_178 rfl (lv_at hl 0 rfl) ?_
                      refine va_iald hx hb hK hP 4 0 rfl rfl (vp_in_nI (by omega) (by omega)) dX11_narrowed_179 ?_
                      refine lv_topi (fun v9 ev9 => ?_)
                      have ev9 : v9 = ah i152 := by rw [ev9]; rw [nI_clamp (by omega)]
                      subst ev9
                      refine lv_aload_n hx hb dX11_narrowed_180 rfl (lv_at hl 2 rfl) ?_
                      refine va_get (D := (dC, dI)) (ci := 11) (v := .ref hi) (C := RX11) (T := TX11) (N := 39) hx hb hts hiX11 hown hK hP 0 rfl rfl 3 (by decide) (hts (.fieldLink RX11 13 "TributePitchesModel" "high" "[I") (List.mem_of_getElem? (i := 5) rfl)) (fun _ h9 => h9) rfl dX11_narrowed_181 ?_
                      refine lv_iload_n hx hb dX11_narrowed_184 rfl (lv_at hl 0 rfl) ?_
                      refine va_iald hx hb hK hP 2 0 rfl rfl (vp_in_nI (by omega) (by omega)) dX11_narrowed_185 ?_
                      refine lv_topi (fun v10 ev10 => ?_)
                      have ev10 : v10 = fh i152 := by rw [ev10]; rw [nI_clamp (by omega)]; exact fa_fill_out (Nat.le_refl _)
                      subst ev10
                      refine lv_icmp_eq (tgt := 193) hx hb dX11_narrowed_186 (by decide) (fun c11 => ?_) (fun c11 => ?_)
                      · skip
                        refine lv_iconst (v := 0) hx hb dX11_narrowed_193 (by decide) ?_
                        refine lv_iadd hx hb dX11_narrowed_194 ?_
                        refine lv_topi (fun v194 ev194 => ?_)
                        have ev194 : v194 = nI (fa_cnt (chg fl fh al ah) (i152 + 1)) := by rw [ev194]; rw [fa_cnt_no (by simp [chg, c6, c11])]; simp
                        subst ev194
                        refine lv_istore_n (lv' := [(2, .int (nI (fa_cnt (chg fl fh al ah) (i152 + 1)))), (3, .int (nI i152)), (0, .ref qm), (1, .int dd)]) hx hb dX11_narrowed_195 rfl hl (by decide) rfl (fun ls hl => ?_)
                        refine lv_aload_n hx hb dX11_narrowed_196 rfl (lv_at hl 2 rfl) ?_
                        refine va_get (D := (dC, dI)) (ci := 11) (v := .ref lo) (C := RX11) (T := TX11) (N := 39) hx hb hts hiX11 hown hK hP 0 rfl rfl 2 (by decide) (hts (.fieldLink RX11 7 "TributePitchesModel" "low" "[I") (List.mem_of_getElem? (i := 4) rfl)) (fun _ h9 => h9) rfl dX11_narrowed_197 ?_
                        refine lv_iload_n hx hb dX11_narrowed_200 rfl (lv_at hl 1 rfl) ?_
                        refine lv_aload_n hx hb dX11_narrowed_201 rfl (lv_at hl 2 rfl) ?_
                        refine va_get (D := (dC, dI)) (ci := 11) (v := .ref nl) (C := RX11) (T := TX11) (N := 39) hx hb hts hiX11 hown hK hP 0 rfl rfl 4 (by decide) (hts (.fieldLink RX11 16 "TributePitchesModel" "newLow" "[I") (List.mem_of_getElem? (i := 2) rfl)) (fun _ h9 => h9) rfl dX11_narrowed_202 ?_
                        refine lv_iload_n hx hb dX11_narrowed_205 rfl (lv_at hl 1 rfl) ?_
                        refine va_iald hx hb hK hP 3 0 rfl rfl (vp_in_nI (by omega) (by omega)) dX11_narrowed_206 ?_
                        refine lv_topi (fun v12 ev12 => ?_)
                        have ev12 : v12 = al i152 := by rw [ev12]; rw [nI_clamp (by omega)]
                        subst ev12
                        refine va_iast hx hb hK hP hD hS 1 0 rfl rfl (vp_in_nI (by omega) (by omega)) dX11_narrowed_207 (fun H locs hP hD hS => ?_)
                        have hP : va_P (dC, dI) vwCl [(qm, .inr (11, [w0, .int fa, .ref lo, .ref hi, .ref nl, .ref nh, .int ch, w7, w8, w9, w10, w11, w12, w13, w14, w15, w16, w17, w18, w19, w20, w21, w22, w23, w24, w25, w26, w27, w28, w29, w30, w31, w32, w33, w34, w35, w36, w37, w38])), (lo, .inl (cI, 48, .inl (upd (fa_fill al fl i152) (nI i152).toNatClampNeg (al i152)))), (hi, .inl (cI, 48, .inl (fa_fill ah fh i152))), (nl, .inl (cI, 48, .inl al)), (nh, .inl (cI, 48, .inl ah))] H := hP
                        have hD : va_D _ [(qm, .inr (11, [w0, .int fa, .ref lo, .ref hi, .ref nl, .ref nh, .int ch, w7, w8, w9, w10, w11, w12, w13, w14, w15, w16, w17, w18, w19, w20, w21, w22, w23, w24, w25, w26, w27, w28, w29, w30, w31, w32, w33, w34, w35, w36, w37, w38])), (lo, .inl (cI, 48, .inl (upd (fa_fill al fl i152) (nI i152).toNatClampNeg (al i152)))), (hi, .inl (cI, 48, .inl (fa_fill ah fh i152))), (nl, .inl (cI, 48, .inl al)), (nh, .inl (cI, 48, .inl ah))] := hD
                        have hP := va_P_cg hP 1 (fa_fill al fl (i152 + 1)) rfl (fun j _ => by rw [nI_clamp (by omega)]; exact congrFun (fa_fill_succ al fl i152) j)
                        have hD := va_D_cg hD 1 (fa_fill al fl (i152 + 1)) rfl
                        have hP : va_P (dC, dI) vwCl [(qm, .inr (11, [w0, .int fa, .ref lo, .ref hi, .ref nl, .ref nh, .int ch, w7, w8, w9, w10, w11, w12, w13, w14, w15, w16, w17, w18, w19, w20, w21, w22, w23, w24, w25, w26, w27, w28, w29, w30, w31, w32, w33, w34, w35, w36, w37, w38])), (lo, .inl (cI, 48, .inl (fa_fill al fl (i152 + 1)))), (hi, .inl (cI, 48, .inl (fa_fill ah fh i152))), (nl, .inl (cI, 48, .inl al)), (nh, .inl (cI, 48, .inl ah))] H := hP
                        have hD : va_D _ [(qm, .inr (11, [w0, .int fa, .ref lo, .ref hi, .ref nl, .ref nh, .int ch, w7, w8, w9, w10, w11, w12, w13, w14, w15, w16, w17, w18, w19, w20, w21, w22, w23, w24, w25, w26, w27, w28, w29, w30, w31, w32, w33, w34, w35, w36, w37, w38])), (lo, .inl (cI, 48, .inl (fa_fill al fl (i152 + 1)))), (hi, .inl (cI, 48, .inl (fa_fill ah fh i152))), (nl, .inl (cI, 48, .inl al)), (nh, .inl (cI, 48, .inl ah))] := hD
                        refine lv_aload_n hx hb dX11_narrowed_208 rfl (lv_at hl 2 rfl) ?_
                        refine va_get (D := (dC, dI)) (ci := 11) (v := .ref hi) (C := RX11) (T := TX11) (N := 39) hx hb hts hiX11 hown hK hP 0 rfl rfl 3 (by decide) (hts (.fieldLink RX11 13 "TributePitchesModel" "high" "[I") (List.mem_of_getElem? (i := 5) rfl)) (fun _ h9 => h9) rfl dX11_narrowed_209 ?_
                        refine lv_iload_n hx hb dX11_narrowed_212 rfl (lv_at hl 1 rfl) ?_
                        refine lv_aload_n hx hb dX11_narrowed_213 rfl (lv_at hl 2 rfl) ?_
                        refine va_get (D := (dC, dI)) (ci := 11) (v := .ref nh) (C := RX11) (T := TX11) (N := 39) hx hb hts hiX11 hown hK hP 0 rfl rfl 5 (by decide) (hts (.fieldLink RX11 19 "TributePitchesModel" "newHigh" "[I") (List.mem_of_getElem? (i := 3) rfl)) (fun _ h9 => h9) rfl dX11_narrowed_214 ?_
                        refine lv_iload_n hx hb dX11_narrowed_217 rfl (lv_at hl 1 rfl) ?_
                        refine va_iald hx hb hK hP 4 0 rfl rfl (vp_in_nI (by omega) (by omega)) dX11_narrowed_218 ?_
                        refine lv_topi (fun v13 ev13 => ?_)
                        have ev13 : v13 = ah i152 := by rw [ev13]; rw [nI_clamp (by omega)]
                        subst ev13
                        refine va_iast hx hb hK hP hD hS 2 0 rfl rfl (vp_in_nI (by omega) (by omega)) dX11_narrowed_219 (fun H locs hP hD hS => ?_)
                        have hP : va_P (dC, dI) vwCl [(qm, .inr (11, [w0, .int fa, .ref lo, .ref hi, .ref nl, .ref nh, .int ch, w7, w8, w9, w10, w11, w12, w13, w14, w15, w16, w17, w18, w19, w20, w21, w22, w23, w24, w25, w26, w27, w28, w29, w30, w31, w32, w33, w34, w35, w36, w37, w38])), (lo, .inl (cI, 48, .inl (fa_fill al fl (i152 + 1)))), (hi, .inl (cI, 48, .inl (upd (fa_fill ah fh i152) (nI i152).toNatClampNeg (ah i152)))), (nl, .inl (cI, 48, .inl al)), (nh, .inl (cI, 48, .inl ah))] H := hP
                        have hD : va_D _ [(qm, .inr (11, [w0, .int fa, .ref lo, .ref hi, .ref nl, .ref nh, .int ch, w7, w8, w9, w10, w11, w12, w13, w14, w15, w16, w17, w18, w19, w20, w21, w22, w23, w24, w25, w26, w27, w28, w29, w30, w31, w32, w33, w34, w35, w36, w37, w38])), (lo, .inl (cI, 48, .inl (fa_fill al fl (i152 + 1)))), (hi, .inl (cI, 48, .inl (upd (fa_fill ah fh i152) (nI i152).toNatClampNeg (ah i152)))), (nl, .inl (cI, 48, .inl al)), (nh, .inl (cI, 48, .inl ah))] := hD
                        have hP := va_P_cg hP 2 (fa_fill ah fh (i152 + 1)) rfl (fun j _ => by rw [nI_clamp (by omega)]; exact congrFun (fa_fill_succ ah fh i152) j)
                        have hD := va_D_cg hD 2 (fa_fill ah fh (i152 + 1)) rfl
                        have hP : va_P (dC, dI) vwCl [(qm, .inr (11, [w0, .int fa, .ref lo, .ref hi, .ref nl, .ref nh, .int ch, w7, w8, w9, w10, w11, w12, w13, w14, w15, w16, w17, w18, w19, w20, w21, w22, w23, w24, w25, w26, w27, w28, w29, w30, w31, w32, w33, w34, w35, w36, w37, w38])), (lo, .inl (cI, 48, .inl (fa_fill al fl (i152 + 1)))), (hi, .inl (cI, 48, .inl (fa_fill ah fh (i152 + 1)))), (nl, .inl (cI, 48, .inl al)), (nh, .inl (cI, 48, .inl ah))] H := hP
                        have hD : va_D _ [(qm, .inr (11, [w0, .int fa, .ref lo, .ref hi, .ref nl, .ref nh, .int ch, w7, w8, w9, w10, w11, w12, w13, w14, w15, w16, w17, w18, w19, w20, w21, w22, w23, w24, w25, w26, w27, w28, w29, w30, w31, w32, w33, w34, w35, w36, w37, w38])), (lo, .inl (cI, 48, .inl (fa_fill al fl (i152 + 1)))), (hi, .inl (cI, 48, .inl (fa_fill ah fh (i152 + 1)))), (nl, .inl (cI, 48, .inl al)), (nh, .inl (cI, 48, .inl ah))] := hD
                        refine lv_iinc (v := nI (i152 + 1)) (lv' := [(3, .int (nI (i152 + 1))), (2, .int (nI (fa_cnt (chg fl fh al ah) (i152 + 1)))), (0, .ref qm), (1, .int dd)]) hx hb dX11_narrowed_220 hl (k := 1) rfl (nI_1 i152) (by decide) rfl (fun ls hl => ?_)
                        refine lv_goto (tgt := 152) hx hb dX11_narrowed_223 (by decide) ?_
                        exact ihi152 (i152 + 1)  _ _ ls (by omega) (by omega)  (hP.sub [0, 1, 2, 3, 4] rfl) (hD.sub [0, 1, 2, 3, 4] (by decide) rfl) hS (lv_sub hl [0, 1, 2, 3] rfl)
                      · skip
                        refine lv_iconst (v := 1) hx hb dX11_narrowed_189 (by decide) ?_
                        refine lv_goto (tgt := 194) hx hb dX11_narrowed_190 (by decide) ?_
                        refine lv_iadd hx hb dX11_narrowed_194 ?_
                        refine lv_topi (fun v194 ev194 => ?_)
                        have ev194 : v194 = nI (fa_cnt (chg fl fh al ah) (i152 + 1)) := by rw [ev194]; rw [fa_cnt_yes (by simp [chg, c6, c11])]; exact nI_1 _
                        subst ev194
                        refine lv_istore_n (lv' := [(2, .int (nI (fa_cnt (chg fl fh al ah) (i152 + 1)))), (3, .int (nI i152)), (0, .ref qm), (1, .int dd)]) hx hb dX11_narrowed_195 rfl hl (by decide) rfl (fun ls hl => ?_)
                        refine lv_aload_n hx hb dX11_narrowed_196 rfl (lv_at hl 2 rfl) ?_
                        refine va_get (D := (dC, dI)) (ci := 11) (v := .ref lo) (C := RX11) (T := TX11) (N := 39) hx hb hts hiX11 hown hK hP 0 rfl rfl 2 (by decide) (hts (.fieldLink RX11 7 "TributePitchesModel" "low" "[I") (List.mem_of_getElem? (i := 4) rfl)) (fun _ h9 => h9) rfl dX11_narrowed_197 ?_
                        refine lv_iload_n hx hb dX11_narrowed_200 rfl (lv_at hl 1 rfl) ?_
                        refine lv_aload_n hx hb dX11_narrowed_201 rfl (lv_at hl 2 rfl) ?_
                        refine va_get (D := (dC, dI)) (ci := 11) (v := .ref nl) (C := RX11) (T := TX11) (N := 39) hx hb hts hiX11 hown hK hP 0 rfl rfl 4 (by decide) (hts (.fieldLink RX11 16 "TributePitchesModel" "newLow" "[I") (List.mem_of_getElem? (i := 2) rfl)) (fun _ h9 => h9) rfl dX11_narrowed_202 ?_
                        refine lv_iload_n hx hb dX11_narrowed_205 rfl (lv_at hl 1 rfl) ?_
                        refine va_iald hx hb hK hP 3 0 rfl rfl (vp_in_nI (by omega) (by omega)) dX11_narrowed_206 ?_
                        refine lv_topi (fun v14 ev14 => ?_)
                        have ev14 : v14 = al i152 := by rw [ev14]; rw [nI_clamp (by omega)]
                        subst ev14
                        refine va_iast hx hb hK hP hD hS 1 0 rfl rfl (vp_in_nI (by omega) (by omega)) dX11_narrowed_207 (fun H locs hP hD hS => ?_)
                        have hP : va_P (dC, dI) vwCl [(qm, .inr (11, [w0, .int fa, .ref lo, .ref hi, .ref nl, .ref nh, .int ch, w7, w8, w9, w10, w11, w12, w13, w14, w15, w16, w17, w18, w19, w20, w21, w22, w23, w24, w25, w26, w27, w28, w29, w30, w31, w32, w33, w34, w35, w36, w37, w38])), (lo, .inl (cI, 48, .inl (upd (fa_fill al fl i152) (nI i152).toNatClampNeg (al i152)))), (hi, .inl (cI, 48, .inl (fa_fill ah fh i152))), (nl, .inl (cI, 48, .inl al)), (nh, .inl (cI, 48, .inl ah))] H := hP
                        have hD : va_D _ [(qm, .inr (11, [w0, .int fa, .ref lo, .ref hi, .ref nl, .ref nh, .int ch, w7, w8, w9, w10, w11, w12, w13, w14, w15, w16, w17, w18, w19, w20, w21, w22, w23, w24, w25, w26, w27, w28, w29, w30, w31, w32, w33, w34, w35, w36, w37, w38])), (lo, .inl (cI, 48, .inl (upd (fa_fill al fl i152) (nI i152).toNatClampNeg (al i152)))), (hi, .inl (cI, 48, .inl (fa_fill ah fh i152))), (nl, .inl (cI, 48, .inl al)), (nh, .inl (cI, 48, .inl ah))] := hD
                        have hP := va_P_cg hP 1 (fa_fill al fl (i152 + 1)) rfl (fun j _ => by rw [nI_clamp (by omega)]; exact congrFun (fa_fill_succ al fl i152) j)
                        have hD := va_D_cg hD 1 (fa_fill al fl (i152 + 1)) rfl
                        have hP : va_P (dC, dI) vwCl [(qm, .inr (11, [w0, .int fa, .ref lo, .ref hi, .ref nl, .ref nh, .int ch, w7, w8, w9, w10, w11, w12, w13, w14, w15, w16, w17, w18, w19, w20, w21, w22, w23, w24, w25, w26, w27, w28, w29, w30, w31, w32, w33, w34, w35, w36, w37, w38])), (lo, .inl (cI, 48, .inl (fa_fill al fl (i152 + 1)))), (hi, .inl (cI, 48, .inl (fa_fill ah fh i152))), (nl, .inl (cI, 48, .inl al)), (nh, .inl (cI, 48, .inl ah))] H := hP
                        have hD : va_D _ [(qm, .inr (11, [w0, .int fa, .ref lo, .ref hi, .ref nl, .ref nh, .int ch, w7, w8, w9, w10, w11, w12, w13, w14, w15, w16, w17, w18, w19, w20, w21, w22, w23, w24, w25, w26, w27, w28, w29, w30, w31, w32, w33, w34, w35, w36, w37, w38])), (lo, .inl (cI, 48, .inl (fa_fill al fl (i152 + 1)))), (hi, .inl (cI, 48, .inl (fa_fill ah fh i152))), (nl, .inl (cI, 48, .inl al)), (nh, .inl (cI, 48, .inl ah))] := hD
                        refine lv_aload_n hx hb dX11_narrowed_208 rfl (lv_at hl 2 rfl) ?_
                        refine va_get (D := (dC, dI)) (ci := 11) (v := .ref hi) (C := RX11) (T := TX11) (N := 39) hx hb hts hiX11 hown hK hP 0 rfl rfl 3 (by decide) (hts (.fieldLink RX11 13 "TributePitchesModel" "high" "[I") (List.mem_of_getElem? (i := 5) rfl)) (fun _ h9 => h9) rfl dX11_narrowed_209 ?_
                        refine lv_iload_n hx hb dX11_narrowed_212 rfl (lv_at hl 1 rfl) ?_
                        refine lv_aload_n hx hb dX11_narrowed_213 rfl (lv_at hl 2 rfl) ?_
                        refine va_get (D := (dC, dI)) (ci := 11) (v := .ref nh) (C := RX11) (T := TX11) (N := 39) hx hb hts hiX11 hown hK hP 0 rfl rfl 5 (by decide) (hts (.fieldLink RX11 19 "TributePitchesModel" "newHigh" "[I") (List.mem_of_getElem? (i := 3) rfl)) (fun _ h9 => h9) rfl dX11_narrowed_214 ?_
                        refine lv_iload_n hx hb dX11_narrowed_217 rfl (lv_at hl 1 rfl) ?_
                        refine va_iald hx hb hK hP 4 0 rfl rfl (vp_in_nI (by omega) (by omega)) dX11_narrowed_218 ?_
                        refine lv_topi (fun v15 ev15 => ?_)
                        have ev15 : v15 = ah i152 := by rw [ev15]; rw [nI_clamp (by omega)]
                        subst ev15
                        refine va_iast hx hb hK hP hD hS 2 0 rfl rfl (vp_in_nI (by omega) (by omega)) dX11_narrowed_219 (fun H locs hP hD hS => ?_)
                        have hP : va_P (dC, dI) vwCl [(qm, .inr (11, [w0, .int fa, .ref lo, .ref hi, .ref nl, .ref nh, .int ch, w7, w8, w9, w10, w11, w12, w13, w14, w15, w16, w17, w18, w19, w20, w21, w22, w23, w24, w25, w26, w27, w28, w29, w30, w31, w32, w33, w34, w35, w36, w37, w38])), (lo, .inl (cI, 48, .inl (fa_fill al fl (i152 + 1)))), (hi, .inl (cI, 48, .inl (upd (fa_fill ah fh i152) (nI i152).toNatClampNeg (ah i152)))), (nl, .inl (cI, 48, .inl al)), (nh, .inl (cI, 48, .inl ah))] H := hP
                        have hD : va_D _ [(qm, .inr (11, [w0, .int fa, .ref lo, .ref hi, .ref nl, .ref nh, .int ch, w7, w8, w9, w10, w11, w12, w13, w14, w15, w16, w17, w18, w19, w20, w21, w22, w23, w24, w25, w26, w27, w28, w29, w30, w31, w32, w33, w34, w35, w36, w37, w38])), (lo, .inl (cI, 48, .inl (fa_fill al fl (i152 + 1)))), (hi, .inl (cI, 48, .inl (upd (fa_fill ah fh i152) (nI i152).toNatClampNeg (ah i152)))), (nl, .inl (cI, 48, .inl al)), (nh, .inl (cI, 48, .inl ah))] := hD
                        have hP := va_P_cg hP 2 (fa_fill ah fh (i152 + 1)) rfl (fun j _ => by rw [nI_clamp (by omega)]; exact congrFun (fa_fill_succ ah fh i152) j)
                        have hD := va_D_cg hD 2 (fa_fill ah fh (i152 + 1)) rfl
                        have hP : va_P (dC, dI) vwCl [(qm, .inr (11, [w0, .int fa, .ref lo, .ref hi, .ref nl, .ref nh, .int ch, w7, w8, w9, w10, w11, w12, w13, w14, w15, w16, w17, w18, w19, w20, w21, w22, w23, w24, w25, w26, w27, w28, w29, w30, w31, w32, w33, w34, w35, w36, w37, w38])), (lo, .inl (cI, 48, .inl (fa_fill al fl (i152 + 1)))), (hi, .inl (cI, 48, .inl (fa_fill ah fh (i152 + 1)))), (nl, .inl (cI, 48, .inl al)), (nh, .inl (cI, 48, .inl ah))] H := hP
                        have hD : va_D _ [(qm, .inr (11, [w0, .int fa, .ref lo, .ref hi, .ref nl, .ref nh, .int ch, w7, w8, w9, w10, w11, w12, w13, w14, w15, w16, w17, w18, w19, w20, w21, w22, w23, w24, w25, w26, w27, w28, w29, w30, w31, w32, w33, w34, w35, w36, w37, w38])), (lo, .inl (cI, 48, .inl (fa_fill al fl (i152 + 1)))), (hi, .inl (cI, 48, .inl (fa_fill ah fh (i152 + 1)))), (nl, .inl (cI, 48, .inl al)), (nh, .inl (cI, 48, .inl ah))] := hD
                        refine lv_iinc (v := nI (i152 + 1)) (lv' := [(3, .int (nI (i152 + 1))), (2, .int (nI (fa_cnt (chg fl fh al ah) (i152 + 1)))), (0, .ref qm), (1, .int dd)]) hx hb dX11_narrowed_220 hl (k := 1) rfl (nI_1 i152) (by decide) rfl (fun ls hl => ?_)
                        refine lv_goto (tgt := 152) hx hb dX11_narrowed_223 (by decide) ?_
                        exact ihi152 (i152 + 1)  _ _ ls (by omega) (by omega)  (hP.sub [0, 1, 2, 3, 4] rfl) (hD.sub [0, 1, 2, 3, 4] (by decide) rfl) hS (lv_sub hl [0, 1, 2, 3] rfl)
              exact loop152 (48 + 1 - 0) 0  _ _ ls (by omega) (by omega)  hP hD hS (lv_sub hl [0, 1, 2, 3] rfl)
            · skip
              have hlti120 : i120 < 48 := (Nat.lt_or_ge i120 48).elim id (fun q => absurd (show nI 48 ≤ nI i120 from nI_le q (by omega)) c2)
              refine lv_aload_n hx hb dX11_narrowed_126 rfl (lv_at hl 2 rfl) ?_
              refine va_get (D := (dC, dI)) (ci := 11) (v := .ref nl) (C := RX11) (T := TX11) (N := 39) hx hb hts hiX11 hown hK hP 0 rfl rfl 4 (by decide) (hts (.fieldLink RX11 16 "TributePitchesModel" "newLow" "[I") (List.mem_of_getElem? (i := 2) rfl)) (fun _ h9 => h9) rfl dX11_narrowed_127 ?_
              refine lv_iload_n hx hb dX11_narrowed_130 rfl (lv_at hl 0 rfl) ?_
              refine va_iald hx hb hK hP 3 0 rfl rfl (vp_in_nI (by omega) (by omega)) dX11_narrowed_131 ?_
              refine lv_topi (fun v16 ev16 => ?_)
              have ev16 : v16 = al i120 := by rw [ev16]; rw [nI_clamp (by omega)]
              subst ev16
              refine lv_aload_n hx hb dX11_narrowed_132 rfl (lv_at hl 2 rfl) ?_
              refine va_get (D := (dC, dI)) (ci := 11) (v := .ref nh) (C := RX11) (T := TX11) (N := 39) hx hb hts hiX11 hown hK hP 0 rfl rfl 5 (by decide) (hts (.fieldLink RX11 19 "TributePitchesModel" "newHigh" "[I") (List.mem_of_getElem? (i := 3) rfl)) (fun _ h9 => h9) rfl dX11_narrowed_133 ?_
              refine lv_iload_n hx hb dX11_narrowed_136 rfl (lv_at hl 0 rfl) ?_
              refine va_iald hx hb hK hP 4 0 rfl rfl (vp_in_nI (by omega) (by omega)) dX11_narrowed_137 ?_
              refine lv_topi (fun v17 ev17 => ?_)
              have ev17 : v17 = ah i120 := by rw [ev17]; rw [nI_clamp (by omega)]
              subst ev17
              refine lv_icmp_le (tgt := 144) hx hb dX11_narrowed_138 (by decide) (fun c18 => ?_) (fun c18 => ?_)
              · skip
                refine lv_iinc (v := nI (i120 + 1)) (lv' := [(3, .int (nI (i120 + 1))), (2, .int 0), (0, .ref qm), (1, .int dd)]) hx hb dX11_narrowed_144 hl (k := 0) rfl (nI_1 i120) (by decide) rfl (fun ls hl => ?_)
                refine lv_goto (tgt := 120) hx hb dX11_narrowed_147 (by decide) ?_
                exact ihi120 (i120 + 1)  _ _ ls (by omega) (by omega) (fun j hj => (Nat.lt_or_ge j i120).elim (fun q => hall j q) (fun q => by have e8 : j = i120 := (by omega); rw [e8]; exact Int32.not_lt.mpr c18)) (hP.sub [0, 1, 2, 3, 4] rfl) (hD.sub [0, 1, 2, 3, 4] (by decide) rfl) hS (lv_sub hl [0, 1, 2, 3] rfl)
              · skip
                refine lv_bipush (v := (-3)) hx hb dX11_narrowed_141 (by decide) ?_
                subst hQ
                have hP9 := hP.sub (ws' := [(qm, .inr (11, [w0, .int fa, .ref lo, .ref hi, .ref nl, .ref nh, .int ch, w7, w8, w9, w10, w11, w12, w13, w14, w15, w16, w17, w18, w19, w20, w21, w22, w23, w24, w25, w26, w27, w28, w29, w30, w31, w32, w33, w34, w35, w36, w37, w38])), (lo, .inl (cI, 48, .inl fl)), (hi, .inl (cI, 48, .inl fh)), (nl, .inl (cI, 48, .inl al)), (nh, .inl (cI, 48, .inl ah))]) [0, 1, 2, 3, 4] rfl
                have hD9 := hD.sub (ws' := [(qm, .inr (11, [w0, .int fa, .ref lo, .ref hi, .ref nl, .ref nh, .int ch, w7, w8, w9, w10, w11, w12, w13, w14, w15, w16, w17, w18, w19, w20, w21, w22, w23, w24, w25, w26, w27, w28, w29, w30, w31, w32, w33, w34, w35, w36, w37, w38])), (lo, .inl (cI, 48, .inl fl)), (hi, .inl (cI, 48, .inl fh)), (nl, .inl (cI, 48, .inl al)), (nh, .inl (cI, 48, .inl ah))]) [0, 1, 2, 3, 4] (by decide) rfl
                have hK9 := hK
                exact W.iret (v := (-3)) hx hb hr (fun t ht hW => ⟨⟨(-3), (fl, fh, al, ah, ch, fa), rfl, ⟨⟨⟨hj.2.1, hj.2.2⟩, hj.1⟩, Or.inl ⟨rfl, ⟨i120, hlti120, Int32.not_le.mp c18⟩, rfl, rfl, rfl⟩⟩, by rw [ht]; exact hP9, va_K.moved hW.alike hK9, hD9⟩, hS.F ht⟩) hS.2.2 dX11_narrowed_143
        exact loop120 (48 + 1 - 0) 0  _ _ ls (by omega) (by omega) (fun j hj => absurd hj (Nat.not_lt_zero j)) hP hD hS (lv_sub hl [0, 1, 2, 3] rfl)
      · skip
        have hc0 : ¬ ch = 0 := c1
        refine lv_aload_n hx hb dX11_narrowed_12 rfl (lv_at hl 0 rfl) ?_
        refine lv_iconst (v := 0) hx hb dX11_narrowed_13 (by decide) ?_
        refine va_put (D := (dC, dI)) (ci := 11) (v := .int 0) (ty := .boolean) (C := RX11) (T := TX11) (N := 39) hx hb hts hiX11 tyX11 tyX11_ok nmX11 hown hK hP hD hS 0 rfl rfl 6 (by decide) (hts (.fieldLink RX11 117 "TributePitchesModel" "isChanged" "Z") (List.mem_of_getElem? (i := 1) rfl)) (fun _ h9 => h9) rfl (by decide +kernel) rfl rfl (Nat.le_of_ble_eq_true rfl) dX11_narrowed_14 (fun H locs hP hD hS => ?_)
        have hP : va_P (dC, dI) vwCl [(qm, .inr (11, [w0, .int fa, .ref lo, .ref hi, .ref nl, .ref nh, .int 0, w7, w8, w9, w10, w11, w12, w13, w14, w15, w16, w17, w18, w19, w20, w21, w22, w23, w24, w25, w26, w27, w28, w29, w30, w31, w32, w33, w34, w35, w36, w37, w38])), (lo, .inl (cI, 48, .inl fl)), (hi, .inl (cI, 48, .inl fh)), (nl, .inl (cI, 48, .inl al)), (nh, .inl (cI, 48, .inl ah))] H := hP
        have hD : va_D _ [(qm, .inr (11, [w0, .int fa, .ref lo, .ref hi, .ref nl, .ref nh, .int 0, w7, w8, w9, w10, w11, w12, w13, w14, w15, w16, w17, w18, w19, w20, w21, w22, w23, w24, w25, w26, w27, w28, w29, w30, w31, w32, w33, w34, w35, w36, w37, w38])), (lo, .inl (cI, 48, .inl fl)), (hi, .inl (cI, 48, .inl fh)), (nl, .inl (cI, 48, .inl al)), (nh, .inl (cI, 48, .inl ah))] := hD
        refine lv_iconst (v := 0) hx hb dX11_narrowed_17 (by decide) ?_
        refine lv_istore_n (lv' := [(2, .int 0), (0, .ref qm), (1, .int dd)]) hx hb dX11_narrowed_18 rfl hl (by decide) rfl (fun ls hl => ?_)
        have loop19 : ∀ (ni19 i19 : Nat) (bl : Nat → Int32) (bh : Nat → Int32) (cq : Int32) (H : Heap) (locs : List Loc) (ls : Array Slot), i19 ≤ 48 → 48 + 1 ≤ i19 + ni19 → (jst dd gl gh al ah i19 (fun _ => False) bl bh cq) → va_P (dC, dI) vwCl [(qm, .inr (11, [w0, .int fa, .ref lo, .ref hi, .ref nl, .ref nh, .int cq, w7, w8, w9, w10, w11, w12, w13, w14, w15, w16, w17, w18, w19, w20, w21, w22, w23, w24, w25, w26, w27, w28, w29, w30, w31, w32, w33, w34, w35, w36, w37, w38])), (lo, .inl (cI, 48, .inl fl)), (hi, .inl (cI, 48, .inl fh)), (nl, .inl (cI, 48, .inl bl)), (nh, .inl (cI, 48, .inl bh))] H → va_D (va_A [(qm, .inr (11, [w0, .int fa, .ref lo, .ref hi, .ref nl, .ref nh, .int ch0, w7, w8, w9, w10, w11, w12, w13, w14, w15, w16, w17, w18, w19, w20, w21, w22, w23, w24, w25, w26, w27, w28, w29, w30, w31, w32, w33, w34, w35, w36, w37, w38])), (lo, .inl (cI, 48, .inl fl)), (hi, .inl (cI, 48, .inl fh)), (nl, .inl (cI, 48, .inl gl)), (nh, .inl (cI, 48, .inl gh))] s.heap.size) [(qm, .inr (11, [w0, .int fa, .ref lo, .ref hi, .ref nl, .ref nh, .int cq, w7, w8, w9, w10, w11, w12, w13, w14, w15, w16, w17, w18, w19, w20, w21, w22, w23, w24, w25, w26, w27, w28, w29, w30, w31, w32, w33, w34, w35, w36, w37, w38])), (lo, .inl (cI, 48, .inl fl)), (hi, .inl (cI, 48, .inl fh)), (nl, .inl (cI, 48, .inl bl)), (nh, .inl (cI, 48, .inl bh))] → va_S (va_A [(qm, .inr (11, [w0, .int fa, .ref lo, .ref hi, .ref nl, .ref nh, .int ch0, w7, w8, w9, w10, w11, w12, w13, w14, w15, w16, w17, w18, w19, w20, w21, w22, w23, w24, w25, w26, w27, w28, w29, w30, w31, w32, w33, w34, w35, w36, w37, w38])), (lo, .inl (cI, 48, .inl fl)), (hi, .inl (cI, 48, .inl fh)), (nl, .inl (cI, 48, .inl gl)), (nh, .inl (cI, 48, .inl gh))] s.heap.size) s.heap H locs → lv_has ls 4 [(2, .int (nI i19)), (0, .ref qm), (1, .int dd)] → W p l e ({ frames := 3, cells := 0, slots := 0, locals := 90 } : Room) s m ([.ref qm, .int dd] : List Value).toArray below meth c0 H locs 0 0 Q (F0 m 19 ls []) := by
          intro ni19
          induction ni19 with
          | zero =>
            intro i19 bl bh cq H locs ls h1 h2
            exact absurd h2 (by omega)
          | succ ni19 ihi19 =>
            intro i19 bl bh cq H locs ls hlei19 hni19 hjs hP hD hS hl
            refine lv_iload_n hx hb dX11_narrowed_19 rfl (lv_at hl 0 rfl) ?_
            refine lv_bipush (v := 48) hx hb dX11_narrowed_20 (by decide) ?_
            refine lv_icmp_ge (tgt := 113) hx hb dX11_narrowed_22 (by decide) (fun c19 => ?_) (fun c19 => ?_)
            · skip
              have hei19 : i19 = 48 := (Nat.lt_or_ge i19 48).elim (fun q => absurd c19 (show ¬ nI 48 ≤ nI i19 from nI_ge q (by omega))) (fun q => by omega)
              have hjs48 : jst dd gl gh al ah 48 (fun _ => False) bl bh cq := (by rw [← hei19]; exact hjs)
              refine lv_goto (tgt := 5) hx hb dX11_narrowed_113 (by decide) ?_
              exact ihi5 bl bh cq _ _ ls (Nat.lt_of_lt_of_le ((jst_end hjs48).2 hc0) (Nat.le_of_lt_succ hfi5)) ⟨hjs48.1, hjs48.2.1⟩ (jst_end hjs48).1 (hP.sub [0, 1, 2, 3, 4] rfl) (hD.sub [0, 1, 2, 3, 4] (by decide) rfl) hS (lv_sub hl [1, 2] rfl)
            · skip
              have hlti19 : i19 < 48 := (Nat.lt_or_ge i19 48).elim id (fun q => absurd (show nI 48 ≤ nI i19 from nI_le q (by omega)) c19)
              refine lv_aload_n hx hb dX11_narrowed_25 rfl (lv_at hl 1 rfl) ?_
              refine va_get (D := (dC, dI)) (ci := 11) (v := .ref nl) (C := RX11) (T := TX11) (N := 39) hx hb hts hiX11 hown hK hP 0 rfl rfl 4 (by decide) (hts (.fieldLink RX11 16 "TributePitchesModel" "newLow" "[I") (List.mem_of_getElem? (i := 2) rfl)) (fun _ h9 => h9) rfl dX11_narrowed_26 ?_
              refine lv_iload_n hx hb dX11_narrowed_29 rfl (lv_at hl 0 rfl) ?_
              refine va_iald hx hb hK hP 3 0 rfl rfl (vp_in_nI (by omega) (by omega)) dX11_narrowed_30 ?_
              refine lv_topi (fun v20 ev20 => ?_)
              have ev20 : v20 = bl i19 := by rw [ev20]; rw [nI_clamp (by omega)]
              subst ev20
              refine lv_aload_n hx hb dX11_narrowed_31 rfl (lv_at hl 1 rfl) ?_
              refine va_get (D := (dC, dI)) (ci := 11) (v := .ref nh) (C := RX11) (T := TX11) (N := 39) hx hb hts hiX11 hown hK hP 0 rfl rfl 5 (by decide) (hts (.fieldLink RX11 19 "TributePitchesModel" "newHigh" "[I") (List.mem_of_getElem? (i := 3) rfl)) (fun _ h9 => h9) rfl dX11_narrowed_32 ?_
              refine lv_iload_n hx hb dX11_narrowed_35 rfl (lv_at hl 0 rfl) ?_
              refine va_iald hx hb hK hP 4 0 rfl rfl (vp_in_nI (by omega) (by omega)) dX11_narrowed_36 ?_
              refine lv_topi (fun v21 ev21 => ?_)
              have ev21 : v21 = bh i19 := by rw [ev21]; rw [nI_clamp (by omega)]
              subst ev21
              refine lv_icmp_le (tgt := 43) hx hb dX11_narrowed_37 (by decide) (fun c22 => ?_) (fun c22 => ?_)
              · skip
                refine lv_aload_n hx hb dX11_narrowed_43 rfl (lv_at hl 1 rfl) ?_
                refine lv_iload_n hx hb dX11_narrowed_44 rfl (lv_at hl 0 rfl) ?_
                refine lv_iload_n hx hb dX11_narrowed_45 rfl (lv_at hl 0 rfl) ?_
                refine lv_bipush (v := 8) hx hb dX11_narrowed_46 (by decide) ?_
                refine lv_irem hx hb dX11_narrowed_48 (by decide) ?_
                refine lv_topi (fun vr evr => ?_)
                have evr : vr = nI (i19 % 8) := by rw [evr]; exact pk_rem (d := 8) (by omega) (by decide) (by decide)
                subst evr
                refine lv_iconst (v := 1) hx hb dX11_narrowed_49 (by decide) ?_
                refine lv_isub hx hb dX11_narrowed_50 ?_
                refine lv_iload_n hx hb dX11_narrowed_51 rfl (lv_at hl 0 rfl) ?_
                refine lv_bipush (v := 8) hx hb dX11_narrowed_52 (by decide) ?_
                refine lv_idiv hx hb dX11_narrowed_54 (by decide) ?_
                refine lv_topi (fun vd evd => ?_)
                have evd : vd = nI (i19 / 8) := by rw [evd]; exact pk_div (d := 8) (by omega) (by decide) (by decide)
                subst evd
                refine lv_iload_n hx hb dX11_narrowed_55 rfl (lv_at hl 2 rfl) ?_
                have hPc := hP.sub (ws' := [(qm, .inr (11, [w0, .int fa, .ref lo, .ref hi, .ref nl, .ref nh, .int cq, w7, w8, w9, w10, w11, w12, w13, w14, w15, w16, w17, w18, w19, w20, w21, w22, w23, w24, w25, w26, w27, w28, w29, w30, w31, w32, w33, w34, w35, w36, w37, w38])), (nl, .inl (cI, 48, .inl bl)), (nh, .inl (cI, 48, .inl bh))]) [0, 3, 4] rfl
                have hDc := hD.sub (ws' := [(qm, .inr (11, [w0, .int fa, .ref lo, .ref hi, .ref nl, .ref nh, .int cq, w7, w8, w9, w10, w11, w12, w13, w14, w15, w16, w17, w18, w19, w20, w21, w22, w23, w24, w25, w26, w27, w28, w29, w30, w31, w32, w33, w34, w35, w36, w37, w38])), (nl, .inl (cI, 48, .inl bl)), (nh, .inl (cI, 48, .inl bh))]) [0, 3, 4] (by decide) rfl
                have hKc := hK.sub (tys' := [(cI, .int)]) [0] rfl
                have hFc := va_free (wc := [(qm, .inr (11, [w0, .int fa, .ref lo, .ref hi, .ref nl, .ref nh, .int cq, w7, w8, w9, w10, w11, w12, w13, w14, w15, w16, w17, w18, w19, w20, w21, w22, w23, w24, w25, w26, w27, w28, w29, w30, w31, w32, w33, w34, w35, w36, w37, w38])), (nl, .inl (cI, 48, .inl bl)), (nh, .inl (cI, 48, .inl bh))]) hD hS hA [0, 3, 4] rfl
                refine va_callv (va_runV (As := [.int (nI i19), .int ((nI (i19 % 8)) - 1), .int (nI (i19 / 8)), .int dd]) (rest := []) ⟨hx, hb, hml, hown, hts⟩ (r_meetNeighbour l dC dI cI _ qm w0 (.int fa) (.ref lo) (.ref hi) w7 w8 w9 w10 w11 w12 w13 w14 w15 w16 w17 w18 w19 w20 w21 w22 w23 w24 w25 w26 w27 w28 w29 w30 w31 w32 w33 w34 w35 w36 w37 w38 nl nh i19 ((nI (i19 % 8)) - 1) (nI (i19 / 8)) dd cq bl bh (by omega)) (cwV 4 hts gX11_narrowed_X11_meetNeighbour rfl rfl rfl (by decide +kernel) ⟨Nat.le_of_ble_eq_true rfl, Nat.le_of_ble_eq_true rfl⟩) (pw_preV (va_recv hKc hPc (ci := 11) (q0 := 0) rfl rfl) hPc hKc hDc hN) rfl rfl hl.1 rfl (lv_room (Nat.le_of_ble_eq_true rfl)) dX11_narrowed_56 ⟨Nat.le_of_ble_eq_true rfl, Nat.le_of_ble_eq_true rfl⟩) hS (fun q _ h => hFc q h) hFc (fun u t H1 locs ht hvm hw hB hz1 hk1 hS => ?_)
                obtain ⟨al_24, ah_25, cq_26⟩ := u
                have hr23 : (¬ ((0 ≤ ((nI (i19 % 8)) - 1) ∧ ((nI (i19 % 8)) - 1) ≤ 7) ∧ (0 ≤ (nI (i19 / 8)) ∧ (nI (i19 / 8)) ≤ 5)) ∧ al_24 = bl ∧ ah_25 = bh ∧ cq_26 = cq) ∨ (∃ b, b < 48 ∧ ((0 ≤ ((nI (i19 % 8)) - 1) ∧ ((nI (i19 % 8)) - 1) ≤ 7) ∧ (0 ≤ (nI (i19 / 8)) ∧ (nI (i19 / 8)) ≤ 5)) ∧ 8 * (nI (i19 / 8)) + ((nI (i19 % 8)) - 1) = nI b ∧ al_24 = tcL i19 (bl b - dd) bl ∧ ah_25 = tcH i19 (bh b + dd) bh ∧ cq_26 = (if bl i19 < bl b - dd ∨ bh b + dd < bh i19 then 1 else cq)) := hw
                obtain ⟨hP1, hK1, hD1⟩ := hB
                rw [ht] at hP1
                obtain ⟨hP, hD⟩ := va_join (wr := [(lo, .inl (cI, 48, .inl fl)), (hi, .inl (cI, 48, .inl fh))]) (w1 := [(qm, .inr (11, [w0, .int fa, .ref lo, .ref hi, .ref nl, .ref nh, .int cq_26, w7, w8, w9, w10, w11, w12, w13, w14, w15, w16, w17, w18, w19, w20, w21, w22, w23, w24, w25, w26, w27, w28, w29, w30, w31, w32, w33, w34, w35, w36, w37, w38])), (nl, .inl (cI, 48, .inl al_24)), (nh, .inl (cI, 48, .inl ah_25))]) hP hD [0, 3, 4] [1, 2] rfl rfl (by decide) (by decide) hk1 hFc hP1 hD1
                generalize H1 = H at hP hS ⊢
                have hP : va_P (dC, dI) vwCl [(lo, .inl (cI, 48, .inl fl)), (hi, .inl (cI, 48, .inl fh)), (qm, .inr (11, [w0, .int fa, .ref lo, .ref hi, .ref nl, .ref nh, .int cq_26, w7, w8, w9, w10, w11, w12, w13, w14, w15, w16, w17, w18, w19, w20, w21, w22, w23, w24, w25, w26, w27, w28, w29, w30, w31, w32, w33, w34, w35, w36, w37, w38])), (nl, .inl (cI, 48, .inl al_24)), (nh, .inl (cI, 48, .inl ah_25))] H := hP
                have hD : va_D _ [(lo, .inl (cI, 48, .inl fl)), (hi, .inl (cI, 48, .inl fh)), (qm, .inr (11, [w0, .int fa, .ref lo, .ref hi, .ref nl, .ref nh, .int cq_26, w7, w8, w9, w10, w11, w12, w13, w14, w15, w16, w17, w18, w19, w20, w21, w22, w23, w24, w25, w26, w27, w28, w29, w30, w31, w32, w33, w34, w35, w36, w37, w38])), (nl, .inl (cI, 48, .inl al_24)), (nh, .inl (cI, 48, .inl ah_25))] := hD
                refine lv_aload_n hx hb dX11_narrowed_59 rfl (lv_at hl 1 rfl) ?_
                refine lv_iload_n hx hb dX11_narrowed_60 rfl (lv_at hl 0 rfl) ?_
                refine lv_iload_n hx hb dX11_narrowed_61 rfl (lv_at hl 0 rfl) ?_
                refine lv_bipush (v := 8) hx hb dX11_narrowed_62 (by decide) ?_
                refine lv_irem hx hb dX11_narrowed_64 (by decide) ?_
                refine lv_topi (fun vr evr => ?_)
                have evr : vr = nI (i19 % 8) := by rw [evr]; exact pk_rem (d := 8) (by omega) (by decide) (by decide)
                subst evr
                refine lv_iconst (v := 1) hx hb dX11_narrowed_65 (by decide) ?_
                refine lv_iadd hx hb dX11_narrowed_66 ?_
                refine lv_iload_n hx hb dX11_narrowed_67 rfl (lv_at hl 0 rfl) ?_
                refine lv_bipush (v := 8) hx hb dX11_narrowed_68 (by decide) ?_
                refine lv_idiv hx hb dX11_narrowed_70 (by decide) ?_
                refine lv_topi (fun vd evd => ?_)
                have evd : vd = nI (i19 / 8) := by rw [evd]; exact pk_div (d := 8) (by omega) (by decide) (by decide)
                subst evd
                refine lv_iload_n hx hb dX11_narrowed_71 rfl (lv_at hl 2 rfl) ?_
                have hPc := hP.sub (ws' := [(qm, .inr (11, [w0, .int fa, .ref lo, .ref hi, .ref nl, .ref nh, .int cq_26, w7, w8, w9, w10, w11, w12, w13, w14, w15, w16, w17, w18, w19, w20, w21, w22, w23, w24, w25, w26, w27, w28, w29, w30, w31, w32, w33, w34, w35, w36, w37, w38])), (nl, .inl (cI, 48, .inl al_24)), (nh, .inl (cI, 48, .inl ah_25))]) [2, 3, 4] rfl
                have hDc := hD.sub (ws' := [(qm, .inr (11, [w0, .int fa, .ref lo, .ref hi, .ref nl, .ref nh, .int cq_26, w7, w8, w9, w10, w11, w12, w13, w14, w15, w16, w17, w18, w19, w20, w21, w22, w23, w24, w25, w26, w27, w28, w29, w30, w31, w32, w33, w34, w35, w36, w37, w38])), (nl, .inl (cI, 48, .inl al_24)), (nh, .inl (cI, 48, .inl ah_25))]) [2, 3, 4] (by decide) rfl
                have hKc := hK.sub (tys' := [(cI, .int)]) [0] rfl
                have hFc := va_free (wc := [(qm, .inr (11, [w0, .int fa, .ref lo, .ref hi, .ref nl, .ref nh, .int cq_26, w7, w8, w9, w10, w11, w12, w13, w14, w15, w16, w17, w18, w19, w20, w21, w22, w23, w24, w25, w26, w27, w28, w29, w30, w31, w32, w33, w34, w35, w36, w37, w38])), (nl, .inl (cI, 48, .inl al_24)), (nh, .inl (cI, 48, .inl ah_25))]) hD hS hA [2, 3, 4] rfl
                refine va_callv (va_runV (As := [.int (nI i19), .int ((nI (i19 % 8)) + 1), .int (nI (i19 / 8)), .int dd]) (rest := []) ⟨hx, hb, hml, hown, hts⟩ (r_meetNeighbour l dC dI cI _ qm w0 (.int fa) (.ref lo) (.ref hi) w7 w8 w9 w10 w11 w12 w13 w14 w15 w16 w17 w18 w19 w20 w21 w22 w23 w24 w25 w26 w27 w28 w29 w30 w31 w32 w33 w34 w35 w36 w37 w38 nl nh i19 ((nI (i19 % 8)) + 1) (nI (i19 / 8)) dd cq_26 al_24 ah_25 (by omega)) (cwV 4 hts gX11_narrowed_X11_meetNeighbour rfl rfl rfl (by decide +kernel) ⟨Nat.le_of_ble_eq_true rfl, Nat.le_of_ble_eq_true rfl⟩) (pw_preV (va_recv hKc hPc (ci := 11) (q0 := 0) rfl rfl) hPc hKc hDc hN) rfl rfl hl.1 rfl (lv_room (Nat.le_of_ble_eq_true rfl)) dX11_narrowed_72 ⟨Nat.le_of_ble_eq_true rfl, Nat.le_of_ble_eq_true rfl⟩) hS (fun q _ h => hFc q h) hFc (fun u t H1 locs ht hvm hw hB hz1 hk1 hS => ?_)
                obtain ⟨al_28, ah_29, cq_30⟩ := u
                have hr27 : (¬ ((0 ≤ ((nI (i19 % 8)) + 1) ∧ ((nI (i19 % 8)) + 1) ≤ 7) ∧ (0 ≤ (nI (i19 / 8)) ∧ (nI (i19 / 8)) ≤ 5)) ∧ al_28 = al_24 ∧ ah_29 = ah_25 ∧ cq_30 = cq_26) ∨ (∃ b, b < 48 ∧ ((0 ≤ ((nI (i19 % 8)) + 1) ∧ ((nI (i19 % 8)) + 1) ≤ 7) ∧ (0 ≤ (nI (i19 / 8)) ∧ (nI (i19 / 8)) ≤ 5)) ∧ 8 * (nI (i19 / 8)) + ((nI (i19 % 8)) + 1) = nI b ∧ al_28 = tcL i19 (al_24 b - dd) al_24 ∧ ah_29 = tcH i19 (ah_25 b + dd) ah_25 ∧ cq_30 = (if al_24 i19 < al_24 b - dd ∨ ah_25 b + dd < ah_25 i19 then 1 else cq_26)) := hw
                obtain ⟨hP1, hK1, hD1⟩ := hB
                rw [ht] at hP1
                obtain ⟨hP, hD⟩ := va_join (wr := [(lo, .inl (cI, 48, .inl fl)), (hi, .inl (cI, 48, .inl fh))]) (w1 := [(qm, .inr (11, [w0, .int fa, .ref lo, .ref hi, .ref nl, .ref nh, .int cq_30, w7, w8, w9, w10, w11, w12, w13, w14, w15, w16, w17, w18, w19, w20, w21, w22, w23, w24, w25, w26, w27, w28, w29, w30, w31, w32, w33, w34, w35, w36, w37, w38])), (nl, .inl (cI, 48, .inl al_28)), (nh, .inl (cI, 48, .inl ah_29))]) hP hD [2, 3, 4] [0, 1] rfl rfl (by decide) (by decide) hk1 hFc hP1 hD1
                generalize H1 = H at hP hS ⊢
                have hP : va_P (dC, dI) vwCl [(lo, .inl (cI, 48, .inl fl)), (hi, .inl (cI, 48, .inl fh)), (qm, .inr (11, [w0, .int fa, .ref lo, .ref hi, .ref nl, .ref nh, .int cq_30, w7, w8, w9, w10, w11, w12, w13, w14, w15, w16, w17, w18, w19, w20, w21, w22, w23, w24, w25, w26, w27, w28, w29, w30, w31, w32, w33, w34, w35, w36, w37, w38])), (nl, .inl (cI, 48, .inl al_28)), (nh, .inl (cI, 48, .inl ah_29))] H := hP
                have hD : va_D _ [(lo, .inl (cI, 48, .inl fl)), (hi, .inl (cI, 48, .inl fh)), (qm, .inr (11, [w0, .int fa, .ref lo, .ref hi, .ref nl, .ref nh, .int cq_30, w7, w8, w9, w10, w11, w12, w13, w14, w15, w16, w17, w18, w19, w20, w21, w22, w23, w24, w25, w26, w27, w28, w29, w30, w31, w32, w33, w34, w35, w36, w37, w38])), (nl, .inl (cI, 48, .inl al_28)), (nh, .inl (cI, 48, .inl ah_29))] := hD
                refine lv_aload_n hx hb dX11_narrowed_75 rfl (lv_at hl 1 rfl) ?_
                refine lv_iload_n hx hb dX11_narrowed_76 rfl (lv_at hl 0 rfl) ?_
                refine lv_iload_n hx hb dX11_narrowed_77 rfl (lv_at hl 0 rfl) ?_
                refine lv_bipush (v := 8) hx hb dX11_narrowed_78 (by decide) ?_
                refine lv_irem hx hb dX11_narrowed_80 (by decide) ?_
                refine lv_topi (fun vr evr => ?_)
                have evr : vr = nI (i19 % 8) := by rw [evr]; exact pk_rem (d := 8) (by omega) (by decide) (by decide)
                subst evr
                refine lv_iload_n hx hb dX11_narrowed_81 rfl (lv_at hl 0 rfl) ?_
                refine lv_bipush (v := 8) hx hb dX11_narrowed_82 (by decide) ?_
                refine lv_idiv hx hb dX11_narrowed_84 (by decide) ?_
                refine lv_topi (fun vd evd => ?_)
                have evd : vd = nI (i19 / 8) := by rw [evd]; exact pk_div (d := 8) (by omega) (by decide) (by decide)
                subst evd
                refine lv_iconst (v := 1) hx hb dX11_narrowed_85 (by decide) ?_
                refine lv_isub hx hb dX11_narrowed_86 ?_
                refine lv_iload_n hx hb dX11_narrowed_87 rfl (lv_at hl 2 rfl) ?_
                have hPc := hP.sub (ws' := [(qm, .inr (11, [w0, .int fa, .ref lo, .ref hi, .ref nl, .ref nh, .int cq_30, w7, w8, w9, w10, w11, w12, w13, w14, w15, w16, w17, w18, w19, w20, w21, w22, w23, w24, w25, w26, w27, w28, w29, w30, w31, w32, w33, w34, w35, w36, w37, w38])), (nl, .inl (cI, 48, .inl al_28)), (nh, .inl (cI, 48, .inl ah_29))]) [2, 3, 4] rfl
                have hDc := hD.sub (ws' := [(qm, .inr (11, [w0, .int fa, .ref lo, .ref hi, .ref nl, .ref nh, .int cq_30, w7, w8, w9, w10, w11, w12, w13, w14, w15, w16, w17, w18, w19, w20, w21, w22, w23, w24, w25, w26, w27, w28, w29, w30, w31, w32, w33, w34, w35, w36, w37, w38])), (nl, .inl (cI, 48, .inl al_28)), (nh, .inl (cI, 48, .inl ah_29))]) [2, 3, 4] (by decide) rfl
                have hKc := hK.sub (tys' := [(cI, .int)]) [0] rfl
                have hFc := va_free (wc := [(qm, .inr (11, [w0, .int fa, .ref lo, .ref hi, .ref nl, .ref nh, .int cq_30, w7, w8, w9, w10, w11, w12, w13, w14, w15, w16, w17, w18, w19, w20, w21, w22, w23, w24, w25, w26, w27, w28, w29, w30, w31, w32, w33, w34, w35, w36, w37, w38])), (nl, .inl (cI, 48, .inl al_28)), (nh, .inl (cI, 48, .inl ah_29))]) hD hS hA [2, 3, 4] rfl
                refine va_callv (va_runV (As := [.int (nI i19), .int (nI (i19 % 8)), .int ((nI (i19 / 8)) - 1), .int dd]) (rest := []) ⟨hx, hb, hml, hown, hts⟩ (r_meetNeighbour l dC dI cI _ qm w0 (.int fa) (.ref lo) (.ref hi) w7 w8 w9 w10 w11 w12 w13 w14 w15 w16 w17 w18 w19 w20 w21 w22 w23 w24 w25 w26 w27 w28 w29 w30 w31 w32 w33 w34 w35 w36 w37 w38 nl nh i19 (nI (i19 % 8)) ((nI (i19 / 8)) - 1) dd cq_30 al_28 ah_29 (by omega)) (cwV 4 hts gX11_narrowed_X11_meetNeighbour rfl rfl rfl (by decide +kernel) ⟨Nat.le_of_ble_eq_true rfl, Nat.le_of_ble_eq_true rfl⟩) (pw_preV (va_recv hKc hPc (ci := 11) (q0 := 0) rfl rfl) hPc hKc hDc hN) rfl rfl hl.1 rfl (lv_room (Nat.le_of_ble_eq_true rfl)) dX11_narrowed_88 ⟨Nat.le_of_ble_eq_true rfl, Nat.le_of_ble_eq_true rfl⟩) hS (fun q _ h => hFc q h) hFc (fun u t H1 locs ht hvm hw hB hz1 hk1 hS => ?_)
                obtain ⟨al_32, ah_33, cq_34⟩ := u
                have hr31 : (¬ ((0 ≤ (nI (i19 % 8)) ∧ (nI (i19 % 8)) ≤ 7) ∧ (0 ≤ ((nI (i19 / 8)) - 1) ∧ ((nI (i19 / 8)) - 1) ≤ 5)) ∧ al_32 = al_28 ∧ ah_33 = ah_29 ∧ cq_34 = cq_30) ∨ (∃ b, b < 48 ∧ ((0 ≤ (nI (i19 % 8)) ∧ (nI (i19 % 8)) ≤ 7) ∧ (0 ≤ ((nI (i19 / 8)) - 1) ∧ ((nI (i19 / 8)) - 1) ≤ 5)) ∧ 8 * ((nI (i19 / 8)) - 1) + (nI (i19 % 8)) = nI b ∧ al_32 = tcL i19 (al_28 b - dd) al_28 ∧ ah_33 = tcH i19 (ah_29 b + dd) ah_29 ∧ cq_34 = (if al_28 i19 < al_28 b - dd ∨ ah_29 b + dd < ah_29 i19 then 1 else cq_30)) := hw
                obtain ⟨hP1, hK1, hD1⟩ := hB
                rw [ht] at hP1
                obtain ⟨hP, hD⟩ := va_join (wr := [(lo, .inl (cI, 48, .inl fl)), (hi, .inl (cI, 48, .inl fh))]) (w1 := [(qm, .inr (11, [w0, .int fa, .ref lo, .ref hi, .ref nl, .ref nh, .int cq_34, w7, w8, w9, w10, w11, w12, w13, w14, w15, w16, w17, w18, w19, w20, w21, w22, w23, w24, w25, w26, w27, w28, w29, w30, w31, w32, w33, w34, w35, w36, w37, w38])), (nl, .inl (cI, 48, .inl al_32)), (nh, .inl (cI, 48, .inl ah_33))]) hP hD [2, 3, 4] [0, 1] rfl rfl (by decide) (by decide) hk1 hFc hP1 hD1
                generalize H1 = H at hP hS ⊢
                have hP : va_P (dC, dI) vwCl [(lo, .inl (cI, 48, .inl fl)), (hi, .inl (cI, 48, .inl fh)), (qm, .inr (11, [w0, .int fa, .ref lo, .ref hi, .ref nl, .ref nh, .int cq_34, w7, w8, w9, w10, w11, w12, w13, w14, w15, w16, w17, w18, w19, w20, w21, w22, w23, w24, w25, w26, w27, w28, w29, w30, w31, w32, w33, w34, w35, w36, w37, w38])), (nl, .inl (cI, 48, .inl al_32)), (nh, .inl (cI, 48, .inl ah_33))] H := hP
                have hD : va_D _ [(lo, .inl (cI, 48, .inl fl)), (hi, .inl (cI, 48, .inl fh)), (qm, .inr (11, [w0, .int fa, .ref lo, .ref hi, .ref nl, .ref nh, .int cq_34, w7, w8, w9, w10, w11, w12, w13, w14, w15, w16, w17, w18, w19, w20, w21, w22, w23, w24, w25, w26, w27, w28, w29, w30, w31, w32, w33, w34, w35, w36, w37, w38])), (nl, .inl (cI, 48, .inl al_32)), (nh, .inl (cI, 48, .inl ah_33))] := hD
                refine lv_aload_n hx hb dX11_narrowed_91 rfl (lv_at hl 1 rfl) ?_
                refine lv_iload_n hx hb dX11_narrowed_92 rfl (lv_at hl 0 rfl) ?_
                refine lv_iload_n hx hb dX11_narrowed_93 rfl (lv_at hl 0 rfl) ?_
                refine lv_bipush (v := 8) hx hb dX11_narrowed_94 (by decide) ?_
                refine lv_irem hx hb dX11_narrowed_96 (by decide) ?_
                refine lv_topi (fun vr evr => ?_)
                have evr : vr = nI (i19 % 8) := by rw [evr]; exact pk_rem (d := 8) (by omega) (by decide) (by decide)
                subst evr
                refine lv_iload_n hx hb dX11_narrowed_97 rfl (lv_at hl 0 rfl) ?_
                refine lv_bipush (v := 8) hx hb dX11_narrowed_98 (by decide) ?_
                refine lv_idiv hx hb dX11_narrowed_100 (by decide) ?_
                refine lv_topi (fun vd evd => ?_)
                have evd : vd = nI (i19 / 8) := by rw [evd]; exact pk_div (d := 8) (by omega) (by decide) (by decide)
                subst evd
                refine lv_iconst (v := 1) hx hb dX11_narrowed_101 (by decide) ?_
                refine lv_iadd hx hb dX11_narrowed_102 ?_
                refine lv_iload_n hx hb dX11_narrowed_103 rfl (lv_at hl 2 rfl) ?_
                have hPc := hP.sub (ws' := [(qm, .inr (11, [w0, .int fa, .ref lo, .ref hi, .ref nl, .ref nh, .int cq_34, w7, w8, w9, w10, w11, w12, w13, w14, w15, w16, w17, w18, w19, w20, w21, w22, w23, w24, w25, w26, w27, w28, w29, w30, w31, w32, w33, w34, w35, w36, w37, w38])), (nl, .inl (cI, 48, .inl al_32)), (nh, .inl (cI, 48, .inl ah_33))]) [2, 3, 4] rfl
                have hDc := hD.sub (ws' := [(qm, .inr (11, [w0, .int fa, .ref lo, .ref hi, .ref nl, .ref nh, .int cq_34, w7, w8, w9, w10, w11, w12, w13, w14, w15, w16, w17, w18, w19, w20, w21, w22, w23, w24, w25, w26, w27, w28, w29, w30, w31, w32, w33, w34, w35, w36, w37, w38])), (nl, .inl (cI, 48, .inl al_32)), (nh, .inl (cI, 48, .inl ah_33))]) [2, 3, 4] (by decide) rfl
                have hKc := hK.sub (tys' := [(cI, .int)]) [0] rfl
                have hFc := va_free (wc := [(qm, .inr (11, [w0, .int fa, .ref lo, .ref hi, .ref nl, .ref nh, .int cq_34, w7, w8, w9, w10, w11, w12, w13, w14, w15, w16, w17, w18, w19, w20, w21, w22, w23, w24, w25, w26, w27, w28, w29, w30, w31, w32, w33, w34, w35, w36, w37, w38])), (nl, .inl (cI, 48, .inl al_32)), (nh, .inl (cI, 48, .inl ah_33))]) hD hS hA [2, 3, 4] rfl
                refine va_callv (va_runV (As := [.int (nI i19), .int (nI (i19 % 8)), .int ((nI (i19 / 8)) + 1), .int dd]) (rest := []) ⟨hx, hb, hml, hown, hts⟩ (r_meetNeighbour l dC dI cI _ qm w0 (.int fa) (.ref lo) (.ref hi) w7 w8 w9 w10 w11 w12 w13 w14 w15 w16 w17 w18 w19 w20 w21 w22 w23 w24 w25 w26 w27 w28 w29 w30 w31 w32 w33 w34 w35 w36 w37 w38 nl nh i19 (nI (i19 % 8)) ((nI (i19 / 8)) + 1) dd cq_34 al_32 ah_33 (by omega)) (cwV 4 hts gX11_narrowed_X11_meetNeighbour rfl rfl rfl (by decide +kernel) ⟨Nat.le_of_ble_eq_true rfl, Nat.le_of_ble_eq_true rfl⟩) (pw_preV (va_recv hKc hPc (ci := 11) (q0 := 0) rfl rfl) hPc hKc hDc hN) rfl rfl hl.1 rfl (lv_room (Nat.le_of_ble_eq_true rfl)) dX11_narrowed_104 ⟨Nat.le_of_ble_eq_true rfl, Nat.le_of_ble_eq_true rfl⟩) hS (fun q _ h => hFc q h) hFc (fun u t H1 locs ht hvm hw hB hz1 hk1 hS => ?_)
                obtain ⟨al_36, ah_37, cq_38⟩ := u
                have hr35 : (¬ ((0 ≤ (nI (i19 % 8)) ∧ (nI (i19 % 8)) ≤ 7) ∧ (0 ≤ ((nI (i19 / 8)) + 1) ∧ ((nI (i19 / 8)) + 1) ≤ 5)) ∧ al_36 = al_32 ∧ ah_37 = ah_33 ∧ cq_38 = cq_34) ∨ (∃ b, b < 48 ∧ ((0 ≤ (nI (i19 % 8)) ∧ (nI (i19 % 8)) ≤ 7) ∧ (0 ≤ ((nI (i19 / 8)) + 1) ∧ ((nI (i19 / 8)) + 1) ≤ 5)) ∧ 8 * ((nI (i19 / 8)) + 1) + (nI (i19 % 8)) = nI b ∧ al_36 = tcL i19 (al_32 b - dd) al_32 ∧ ah_37 = tcH i19 (ah_33 b + dd) ah_33 ∧ cq_38 = (if al_32 i19 < al_32 b - dd ∨ ah_33 b + dd < ah_33 i19 then 1 else cq_34)) := hw
                obtain ⟨hP1, hK1, hD1⟩ := hB
                rw [ht] at hP1
                obtain ⟨hP, hD⟩ := va_join (wr := [(lo, .inl (cI, 48, .inl fl)), (hi, .inl (cI, 48, .inl fh))]) (w1 := [(qm, .inr (11, [w0, .int fa, .ref lo, .ref hi, .ref nl, .ref nh, .int cq_38, w7, w8, w9, w10, w11, w12, w13, w14, w15, w16, w17, w18, w19, w20, w21, w22, w23, w24, w25, w26, w27, w28, w29, w30, w31, w32, w33, w34, w35, w36, w37, w38])), (nl, .inl (cI, 48, .inl al_36)), (nh, .inl (cI, 48, .inl ah_37))]) hP hD [2, 3, 4] [0, 1] rfl rfl (by decide) (by decide) hk1 hFc hP1 hD1
                generalize H1 = H at hP hS ⊢
                have hP : va_P (dC, dI) vwCl [(lo, .inl (cI, 48, .inl fl)), (hi, .inl (cI, 48, .inl fh)), (qm, .inr (11, [w0, .int fa, .ref lo, .ref hi, .ref nl, .ref nh, .int cq_38, w7, w8, w9, w10, w11, w12, w13, w14, w15, w16, w17, w18, w19, w20, w21, w22, w23, w24, w25, w26, w27, w28, w29, w30, w31, w32, w33, w34, w35, w36, w37, w38])), (nl, .inl (cI, 48, .inl al_36)), (nh, .inl (cI, 48, .inl ah_37))] H := hP
                have hD : va_D _ [(lo, .inl (cI, 48, .inl fl)), (hi, .inl (cI, 48, .inl fh)), (qm, .inr (11, [w0, .int fa, .ref lo, .ref hi, .ref nl, .ref nh, .int cq_38, w7, w8, w9, w10, w11, w12, w13, w14, w15, w16, w17, w18, w19, w20, w21, w22, w23, w24, w25, w26, w27, w28, w29, w30, w31, w32, w33, w34, w35, w36, w37, w38])), (nl, .inl (cI, 48, .inl al_36)), (nh, .inl (cI, 48, .inl ah_37))] := hD
                refine lv_iinc (v := nI (i19 + 1)) (lv' := [(2, .int (nI (i19 + 1))), (0, .ref qm), (1, .int dd)]) hx hb dX11_narrowed_107 hl (k := 0) rfl (nI_1 i19) (by decide) rfl (fun ls hl => ?_)
                refine lv_goto (tgt := 19) hx hb dX11_narrowed_110 (by decide) ?_
                exact ihi19 (i19 + 1) al_36 ah_37 cq_38 _ _ ls (by omega) (by omega) (jst_next (jn4 hd hlti19 (jn3 hd hlti19 (jn2 hd hlti19 (jn1 hd hlti19 hjs hr23) hr27) hr31) hr35) nb_all) (hP.sub [2, 0, 1, 3, 4] rfl) (hD.sub [2, 0, 1, 3, 4] (by decide) rfl) hS (lv_sub hl [0, 1, 2] rfl)
              · skip
                refine lv_bipush (v := (-3)) hx hb dX11_narrowed_40 (by decide) ?_
                subst hQ
                have hP9 := hP.sub (ws' := [(qm, .inr (11, [w0, .int fa, .ref lo, .ref hi, .ref nl, .ref nh, .int cq, w7, w8, w9, w10, w11, w12, w13, w14, w15, w16, w17, w18, w19, w20, w21, w22, w23, w24, w25, w26, w27, w28, w29, w30, w31, w32, w33, w34, w35, w36, w37, w38])), (lo, .inl (cI, 48, .inl fl)), (hi, .inl (cI, 48, .inl fh)), (nl, .inl (cI, 48, .inl bl)), (nh, .inl (cI, 48, .inl bh))]) [0, 1, 2, 3, 4] rfl
                have hD9 := hD.sub (ws' := [(qm, .inr (11, [w0, .int fa, .ref lo, .ref hi, .ref nl, .ref nh, .int cq, w7, w8, w9, w10, w11, w12, w13, w14, w15, w16, w17, w18, w19, w20, w21, w22, w23, w24, w25, w26, w27, w28, w29, w30, w31, w32, w33, w34, w35, w36, w37, w38])), (lo, .inl (cI, 48, .inl fl)), (hi, .inl (cI, 48, .inl fh)), (nl, .inl (cI, 48, .inl bl)), (nh, .inl (cI, 48, .inl bh))]) [0, 1, 2, 3, 4] (by decide) rfl
                have hK9 := hK
                exact W.iret (v := (-3)) hx hb hr (fun t ht hW => ⟨⟨(-3), (fl, fh, bl, bh, cq, fa), rfl, ⟨⟨⟨hjs.2.1.1, hjs.2.1.2⟩, hjs.1⟩, Or.inl ⟨rfl, ⟨i19, hlti19, Int32.not_le.mp c22⟩, rfl, rfl, rfl⟩⟩, by rw [ht]; exact hP9, va_K.moved hW.alike hK9, hD9⟩, hS.F ht⟩) hS.2.2 dX11_narrowed_42
        exact loop19 (48 + 1 - 0) 0 al ah 0 _ _ ls (by omega) (by omega) (jst_start hj) hP hD hS (lv_sub hl [0, 1, 2] rfl)
  exact loop5 ((msum gl gh 48 + (if (1 : Int32) = 0 then 0 else 1)) + 1) gl gh 1 _ _ ls (Nat.lt_succ_self _) ⟨⟨hr1, hr2⟩, minL_rf, maxH_rf⟩ (fun q => absurd q (by decide)) hP hD hS (lv_sub hl [0, 1] rfl)
theorem rng_of {a b : Nat → Int32} (h : ∀ j, j < 48 → 0 ≤ (a j).toInt ∧ (a j).toInt ≤ 1000 ∧ 0 ≤ (b j).toInt ∧ (b j).toInt ≤ 1000) : rngL a ∧ rngL b := ⟨fun j hj => ⟨(h j hj).1, (h j hj).2.1⟩, fun j hj => (h j hj).2.2⟩
theorem rng_tcL {a : Nat → Int32} {s : Nat} {v : Int32} (h : rngL a) (hv : 0 ≤ v ∧ v ≤ 1000) : rngL (tcL s v a) := fun j hj => by
  have q1 := (fa_le _ _).mp hv.1
  have q2 := (fa_le _ _).mp hv.2
  by_cases hs : j = s
  · subst hs; rw [tcL_at]; split
    · exact ⟨q1, q2⟩
    · exact h j hj
  · rw [tcL_ne hs]; exact h j hj
theorem rng_tcH {a : Nat → Int32} {s : Nat} {v : Int32} (h : rngL a) (hv : 0 ≤ v ∧ v ≤ 1000) : rngL (tcH s v a) := fun j hj => by
  have q1 := (fa_le _ _).mp hv.1
  have q2 := (fa_le _ _).mp hv.2
  by_cases hs : j = s
  · subst hs; rw [tcH_at]; split
    · exact ⟨q1, q2⟩
    · exact h j hj
  · rw [tcH_ne hs]; exact h j hj
theorem nar_ok {fa dd fa1 : Int32} {fl fh fl1 fh1 al1 ah1 : Nat → Int32} {A B C D E F : Prop} (h : (A ∧ (rngL al1 ∧ rngL ah1)) ∧ ((B ∧ C ∧ fl1 = fl ∧ fh1 = fh ∧ fa1 = fa) ∨ (D ∧ E ∧ F ∧ fl1 = al1 ∧ fh1 = ah1 ∧ fa1 = dd))) (hr : rngL fl ∧ rngL fh) (hf : 0 ≤ fa.toInt ∧ fa.toInt ≤ 1000) (hd : 0 ≤ dd.toInt ∧ dd.toInt ≤ 1000) : (0 ≤ fa1.toInt ∧ fa1.toInt ≤ 1000) ∧ rngL fl1 ∧ rngL fh1 := by
  obtain ⟨⟨_, h1⟩, ⟨_, _, rfl, rfl, rfl⟩ | ⟨_, _, _, rfl, rfl, rfl⟩⟩ := h
  · exact ⟨hf, hr⟩
  · exact ⟨hd, h1⟩
theorem inv_nar {z : RS2} {i' : Nat → Int32} {fl fh al ah : Nat → Int32} (hI : invR z) (e1 : i' 20 = rs_i z 20) (e2 : i' 22 = rs_i z 22) (e3 : i' 23 = rs_i z 23) (h1 : 0 ≤ (i' 1).toInt ∧ (i' 1).toInt ≤ 1000) (h2 : rngL fl ∧ rngL fh) : invR (i', rs_n z, va_up (va_up (va_up (va_up (rs_I z) 2 fl) 3 fh) 4 al) 5 ah, rs_L z) := by
  obtain ⟨h0, hfar, hlh, hss, hsold, htk, hpk⟩ := hI
  refine ⟨h0, h1, (fun j hj => ⟨(h2.1 j hj).1, (h2.1 j hj).2, (h2.2 j hj).1, (h2.2 j hj).2⟩), hss, ?_, htk, hpk⟩
  show i' 20 = -9 ∨ ((∃ p, p < rs_n z 0 ∧ i' 20 = nI p) ∧ (i' 22 = 0 ∨ ∃ g, g < rs_n z 1 ∧ i' 23 = nI g))
  rw [e1, e2, e3]
  exact hsold
theorem rg_d {d : Int32} (h : 0 ≤ d ∧ d ≤ 1000) : 0 ≤ d.toInt ∧ d.toInt ≤ 1000 := ⟨(fa_le _ _).mp h.1, (fa_le _ _).mp h.2⟩
set_option maxHeartbeats 4000000 in
set_option maxRecDepth 100000 in
theorem c_X11_layNew (l : Launch) (dC : Nat → ClassId) (dI : Nat → Nat → Nat) (cI : ClassId) (sz : Nat) (qm : Nat) (w0 : Value) (w1 : Value) (w6 : Value) (w7 : Value) (w8 : Value) (w9 : Value) (w10 : Value) (w11 : Value) (w12 : Value) (w13 : Value) (w14 : Value) (w15 : Value) (w16 : Value) (w17 : Value) (w18 : Value) (w19 : Value) (w20 : Value) (w21 : Value) (w22 : Value) (w23 : Value) (w24 : Value) (w25 : Value) (w26 : Value) (w27 : Value) (w28 : Value) (w29 : Value) (w30 : Value) (w31 : Value) (w32 : Value) (w33 : Value) (w34 : Value) (w35 : Value) (w36 : Value) (w37 : Value) (w38 : Value) (nl : Nat) (nh : Nat) (lo : Nat) (hi : Nat) (fl : Nat → Int32) (fh : Nat → Int32) (gl : Nat → Int32) (gh : Nat → Int32)  : Met l yX11_layNew wsX11_layNew ({ frames := 0, cells := 0, slots := 0, locals := 0 }) (pw (dC, dI) [(cI, .int)] [(qm, .inr (11, [w0, w1, .ref lo, .ref hi, .ref nl, .ref nh, w6, w7, w8, w9, w10, w11, w12, w13, w14, w15, w16, w17, w18, w19, w20, w21, w22, w23, w24, w25, w26, w27, w28, w29, w30, w31, w32, w33, w34, w35, w36, w37, w38])), (lo, .inl (cI, 48, .inl fl)), (hi, .inl (cI, 48, .inl fh)), (nl, .inl (cI, 48, .inl gl)), (nh, .inl (cI, 48, .inl gh))] sz [.ref qm]) (va_Qv (fun (_ : Unit) => True) (fun _ t => bw (dC, dI) [(cI, .int)] (va_A [(qm, .inr (11, [w0, w1, .ref lo, .ref hi, .ref nl, .ref nh, w6, w7, w8, w9, w10, w11, w12, w13, w14, w15, w16, w17, w18, w19, w20, w21, w22, w23, w24, w25, w26, w27, w28, w29, w30, w31, w32, w33, w34, w35, w36, w37, w38])), (lo, .inl (cI, 48, .inl fl)), (hi, .inl (cI, 48, .inl fh)), (nl, .inl (cI, 48, .inl gl)), (nh, .inl (cI, 48, .inl gh))] sz) [(qm, .inr (11, [w0, w1, .ref lo, .ref hi, .ref nl, .ref nh, w6, w7, w8, w9, w10, w11, w12, w13, w14, w15, w16, w17, w18, w19, w20, w21, w22, w23, w24, w25, w26, w27, w28, w29, w30, w31, w32, w33, w34, w35, w36, w37, w38])), (lo, .inl (cI, 48, .inl fl)), (hi, .inl (cI, 48, .inl fh)), (nl, .inl (cI, 48, .inl fl)), (nh, .inl (cI, 48, .inl fh))] t) (va_A [(qm, .inr (11, [w0, w1, .ref lo, .ref hi, .ref nl, .ref nh, w6, w7, w8, w9, w10, w11, w12, w13, w14, w15, w16, w17, w18, w19, w20, w21, w22, w23, w24, w25, w26, w27, w28, w29, w30, w31, w32, w33, w34, w35, w36, w37, w38])), (lo, .inl (cI, 48, .inl fl)), (hi, .inl (cI, 48, .inl fh)), (nl, .inl (cI, 48, .inl gl)), (nh, .inl (cI, 48, .inl gh))] sz)) 0 0 (va_A [(qm, .inr (11, [w0, w1, .ref lo, .ref hi, .ref nl, .ref nh, w6, w7, w8, w9, w10, w11, w12, w13, w14, w15, w16, w17, w18, w19, w20, w21, w22, w23, w24, w25, w26, w27, w28, w29, w30, w31, w32, w33, w34, w35, w36, w37, w38])), (lo, .inl (cI, 48, .inl fl)), (hi, .inl (cI, 48, .inl fh)), (nl, .inl (cI, 48, .inl gl)), (nh, .inl (cI, 48, .inl gh))] sz) := by
  refine pw_met (cc := cX11_layNew) (maxL := 2) (ret := none) (by decide) rfl (Nat.le_of_ble_eq_true rfl) ?_
  intro p e s m below meth c0 hx hb hr hml hown hlocks hnm hts hP hK hD hN hsz hA hS ls hl
  subst hsz
  have hl : lv_has ls 2 [(0, .ref qm)] := hl
  have hiX11 : ∀ w ∈ wsX110, w ∈ wsX11_layNew := fun _ h => List.mem_cons_of_mem _ (List.mem_append_right _ (h))
  generalize hQ : MQ _ _ _ _ _ _ _ = Q
  refine lv_iconst (v := 0) hx hb dX11_layNew_0 (by decide) ?_
  refine lv_istore_n (lv' := [(1, .int 0), (0, .ref qm)]) hx hb dX11_layNew_1 rfl hl (by decide) rfl (fun ls hl => ?_)
  have hP := va_P_cg hP 3 (fa_fill fl gl 0) rfl (fun j _ => (congrFun (fa_fill_0 fl gl) j).symm)
  have hD := va_D_cg hD 3 (fa_fill fl gl 0) rfl
  have hP : va_P (dC, dI) vwCl [(qm, .inr (11, [w0, w1, .ref lo, .ref hi, .ref nl, .ref nh, w6, w7, w8, w9, w10, w11, w12, w13, w14, w15, w16, w17, w18, w19, w20, w21, w22, w23, w24, w25, w26, w27, w28, w29, w30, w31, w32, w33, w34, w35, w36, w37, w38])), (lo, .inl (cI, 48, .inl fl)), (hi, .inl (cI, 48, .inl fh)), (nl, .inl (cI, 48, .inl (fa_fill fl gl 0))), (nh, .inl (cI, 48, .inl gh))] s.heap := hP
  have hD : va_D _ [(qm, .inr (11, [w0, w1, .ref lo, .ref hi, .ref nl, .ref nh, w6, w7, w8, w9, w10, w11, w12, w13, w14, w15, w16, w17, w18, w19, w20, w21, w22, w23, w24, w25, w26, w27, w28, w29, w30, w31, w32, w33, w34, w35, w36, w37, w38])), (lo, .inl (cI, 48, .inl fl)), (hi, .inl (cI, 48, .inl fh)), (nl, .inl (cI, 48, .inl (fa_fill fl gl 0))), (nh, .inl (cI, 48, .inl gh))] := hD
  have hP := va_P_cg hP 4 (fa_fill fh gh 0) rfl (fun j _ => (congrFun (fa_fill_0 fh gh) j).symm)
  have hD := va_D_cg hD 4 (fa_fill fh gh 0) rfl
  have hP : va_P (dC, dI) vwCl [(qm, .inr (11, [w0, w1, .ref lo, .ref hi, .ref nl, .ref nh, w6, w7, w8, w9, w10, w11, w12, w13, w14, w15, w16, w17, w18, w19, w20, w21, w22, w23, w24, w25, w26, w27, w28, w29, w30, w31, w32, w33, w34, w35, w36, w37, w38])), (lo, .inl (cI, 48, .inl fl)), (hi, .inl (cI, 48, .inl fh)), (nl, .inl (cI, 48, .inl (fa_fill fl gl 0))), (nh, .inl (cI, 48, .inl (fa_fill fh gh 0)))] s.heap := hP
  have hD : va_D _ [(qm, .inr (11, [w0, w1, .ref lo, .ref hi, .ref nl, .ref nh, w6, w7, w8, w9, w10, w11, w12, w13, w14, w15, w16, w17, w18, w19, w20, w21, w22, w23, w24, w25, w26, w27, w28, w29, w30, w31, w32, w33, w34, w35, w36, w37, w38])), (lo, .inl (cI, 48, .inl fl)), (hi, .inl (cI, 48, .inl fh)), (nl, .inl (cI, 48, .inl (fa_fill fl gl 0))), (nh, .inl (cI, 48, .inl (fa_fill fh gh 0)))] := hD
  have loop2 : ∀ (ni2 i2 : Nat) (H : Heap) (locs : List Loc) (ls : Array Slot), i2 ≤ 48 → 48 + 1 ≤ i2 + ni2 → va_P (dC, dI) vwCl [(qm, .inr (11, [w0, w1, .ref lo, .ref hi, .ref nl, .ref nh, w6, w7, w8, w9, w10, w11, w12, w13, w14, w15, w16, w17, w18, w19, w20, w21, w22, w23, w24, w25, w26, w27, w28, w29, w30, w31, w32, w33, w34, w35, w36, w37, w38])), (lo, .inl (cI, 48, .inl fl)), (hi, .inl (cI, 48, .inl fh)), (nl, .inl (cI, 48, .inl (fa_fill fl gl i2))), (nh, .inl (cI, 48, .inl (fa_fill fh gh i2)))] H → va_D (va_A [(qm, .inr (11, [w0, w1, .ref lo, .ref hi, .ref nl, .ref nh, w6, w7, w8, w9, w10, w11, w12, w13, w14, w15, w16, w17, w18, w19, w20, w21, w22, w23, w24, w25, w26, w27, w28, w29, w30, w31, w32, w33, w34, w35, w36, w37, w38])), (lo, .inl (cI, 48, .inl fl)), (hi, .inl (cI, 48, .inl fh)), (nl, .inl (cI, 48, .inl gl)), (nh, .inl (cI, 48, .inl gh))] s.heap.size) [(qm, .inr (11, [w0, w1, .ref lo, .ref hi, .ref nl, .ref nh, w6, w7, w8, w9, w10, w11, w12, w13, w14, w15, w16, w17, w18, w19, w20, w21, w22, w23, w24, w25, w26, w27, w28, w29, w30, w31, w32, w33, w34, w35, w36, w37, w38])), (lo, .inl (cI, 48, .inl fl)), (hi, .inl (cI, 48, .inl fh)), (nl, .inl (cI, 48, .inl (fa_fill fl gl i2))), (nh, .inl (cI, 48, .inl (fa_fill fh gh i2)))] → va_S (va_A [(qm, .inr (11, [w0, w1, .ref lo, .ref hi, .ref nl, .ref nh, w6, w7, w8, w9, w10, w11, w12, w13, w14, w15, w16, w17, w18, w19, w20, w21, w22, w23, w24, w25, w26, w27, w28, w29, w30, w31, w32, w33, w34, w35, w36, w37, w38])), (lo, .inl (cI, 48, .inl fl)), (hi, .inl (cI, 48, .inl fh)), (nl, .inl (cI, 48, .inl gl)), (nh, .inl (cI, 48, .inl gh))] s.heap.size) s.heap H locs → lv_has ls 2 [(1, .int (nI i2)), (0, .ref qm)] → W p l e ({ frames := 0, cells := 0, slots := 0, locals := 0 } : Room) s m ([.ref qm] : List Value).toArray below meth c0 H locs 0 0 Q (F0 m 2 ls []) := by
    intro ni2
    induction ni2 with
    | zero =>
      intro i2  H locs ls h1 h2
      exact absurd h2 (by omega)
    | succ ni2 ihi2 =>
      intro i2  H locs ls hlei2 hni2  hP hD hS hl
      refine lv_iload_n hx hb dX11_layNew_2 rfl (lv_at hl 0 rfl) ?_
      refine lv_bipush (v := 48) hx hb dX11_layNew_3 (by decide) ?_
      refine lv_icmp_ge (tgt := 38) hx hb dX11_layNew_5 (by decide) (fun c1 => ?_) (fun c1 => ?_)
      · skip
        have hei2 : i2 = 48 := (Nat.lt_or_ge i2 48).elim (fun q => absurd c1 (show ¬ nI 48 ≤ nI i2 from nI_ge q (by omega))) (fun q => by omega)
        have hP := va_P_cg hP 3 fl rfl (fun j hj => fa_fill_in (by omega))
        have hD := va_D_cg hD 3 fl rfl
        have hP : va_P (dC, dI) vwCl [(qm, .inr (11, [w0, w1, .ref lo, .ref hi, .ref nl, .ref nh, w6, w7, w8, w9, w10, w11, w12, w13, w14, w15, w16, w17, w18, w19, w20, w21, w22, w23, w24, w25, w26, w27, w28, w29, w30, w31, w32, w33, w34, w35, w36, w37, w38])), (lo, .inl (cI, 48, .inl fl)), (hi, .inl (cI, 48, .inl fh)), (nl, .inl (cI, 48, .inl fl)), (nh, .inl (cI, 48, .inl (fa_fill fh gh i2)))] H := hP
        have hD : va_D _ [(qm, .inr (11, [w0, w1, .ref lo, .ref hi, .ref nl, .ref nh, w6, w7, w8, w9, w10, w11, w12, w13, w14, w15, w16, w17, w18, w19, w20, w21, w22, w23, w24, w25, w26, w27, w28, w29, w30, w31, w32, w33, w34, w35, w36, w37, w38])), (lo, .inl (cI, 48, .inl fl)), (hi, .inl (cI, 48, .inl fh)), (nl, .inl (cI, 48, .inl fl)), (nh, .inl (cI, 48, .inl (fa_fill fh gh i2)))] := hD
        have hP := va_P_cg hP 4 fh rfl (fun j hj => fa_fill_in (by omega))
        have hD := va_D_cg hD 4 fh rfl
        have hP : va_P (dC, dI) vwCl [(qm, .inr (11, [w0, w1, .ref lo, .ref hi, .ref nl, .ref nh, w6, w7, w8, w9, w10, w11, w12, w13, w14, w15, w16, w17, w18, w19, w20, w21, w22, w23, w24, w25, w26, w27, w28, w29, w30, w31, w32, w33, w34, w35, w36, w37, w38])), (lo, .inl (cI, 48, .inl fl)), (hi, .inl (cI, 48, .inl fh)), (nl, .inl (cI, 48, .inl fl)), (nh, .inl (cI, 48, .inl fh))] H := hP
        have hD : va_D _ [(qm, .inr (11, [w0, w1, .ref lo, .ref hi, .ref nl, .ref nh, w6, w7, w8, w9, w10, w11, w12, w13, w14, w15, w16, w17, w18, w19, w20, w21, w22, w23, w24, w25, w26, w27, w28, w29, w30, w31, w32, w33, w34, w35, w36, w37, w38])), (lo, .inl (cI, 48, .inl fl)), (hi, .inl (cI, 48, .inl fh)), (nl, .inl (cI, 48, .inl fl)), (nh, .inl (cI, 48, .inl fh))] := hD
        subst hQ
        have hP9 := hP.sub (ws' := [(qm, .inr (11, [w0, w1, .ref lo, .ref hi, .ref nl, .ref nh, w6, w7, w8, w9, w10, w11, w12, w13, w14, w15, w16, w17, w18, w19, w20, w21, w22, w23, w24, w25, w26, w27, w28, w29, w30, w31, w32, w33, w34, w35, w36, w37, w38])), (lo, .inl (cI, 48, .inl fl)), (hi, .inl (cI, 48, .inl fh)), (nl, .inl (cI, 48, .inl fl)), (nh, .inl (cI, 48, .inl fh))]) [0, 1, 2, 3, 4] rfl
        have hD9 := hD.sub (ws' := [(qm, .inr (11, [w0, w1, .ref lo, .ref hi, .ref nl, .ref nh, w6, w7, w8, w9, w10, w11, w12, w13, w14, w15, w16, w17, w18, w19, w20, w21, w22, w23, w24, w25, w26, w27, w28, w29, w30, w31, w32, w33, w34, w35, w36, w37, w38])), (lo, .inl (cI, 48, .inl fl)), (hi, .inl (cI, 48, .inl fh)), (nl, .inl (cI, 48, .inl fl)), (nh, .inl (cI, 48, .inl fh))]) [0, 1, 2, 3, 4] (by decide) rfl
        have hK9 := hK.sub (tys' := [(cI, .int)]) [0] rfl
        exact W.vret hx hb hr (fun t ht hW => ⟨⟨(), rfl, trivial, ⟨by rw [ht]; exact hP9, va_K.moved hW.alike hK9, hD9⟩⟩, hS.F ht⟩) hS.2.2 dX11_layNew_38
      · skip
        have hlti2 : i2 < 48 := (Nat.lt_or_ge i2 48).elim id (fun q => absurd (show nI 48 ≤ nI i2 from nI_le q (by omega)) c1)
        refine lv_aload_n hx hb dX11_layNew_8 rfl (lv_at hl 1 rfl) ?_
        refine va_get (D := (dC, dI)) (ci := 11) (v := .ref nl) (C := RX11) (T := TX11) (N := 39) hx hb hts hiX11 hown hK hP 0 rfl rfl 4 (by decide) (hts (.fieldLink RX11 16 "TributePitchesModel" "newLow" "[I") (List.mem_of_getElem? (i := 1) rfl)) (fun _ h9 => h9) rfl dX11_layNew_9 ?_
        refine lv_iload_n hx hb dX11_layNew_12 rfl (lv_at hl 0 rfl) ?_
        refine lv_aload_n hx hb dX11_layNew_13 rfl (lv_at hl 1 rfl) ?_
        refine va_get (D := (dC, dI)) (ci := 11) (v := .ref lo) (C := RX11) (T := TX11) (N := 39) hx hb hts hiX11 hown hK hP 0 rfl rfl 2 (by decide) (hts (.fieldLink RX11 7 "TributePitchesModel" "low" "[I") (List.mem_of_getElem? (i := 2) rfl)) (fun _ h9 => h9) rfl dX11_layNew_14 ?_
        refine lv_iload_n hx hb dX11_layNew_17 rfl (lv_at hl 0 rfl) ?_
        refine va_iald hx hb hK hP 1 0 rfl rfl (vp_in_nI (by omega) (by omega)) dX11_layNew_18 ?_
        refine lv_topi (fun v2 ev2 => ?_)
        have ev2 : v2 = fl i2 := by rw [ev2]; rw [nI_clamp (by omega)]
        subst ev2
        refine va_iast hx hb hK hP hD hS 3 0 rfl rfl (vp_in_nI (by omega) (by omega)) dX11_layNew_19 (fun H locs hP hD hS => ?_)
        have hP : va_P (dC, dI) vwCl [(qm, .inr (11, [w0, w1, .ref lo, .ref hi, .ref nl, .ref nh, w6, w7, w8, w9, w10, w11, w12, w13, w14, w15, w16, w17, w18, w19, w20, w21, w22, w23, w24, w25, w26, w27, w28, w29, w30, w31, w32, w33, w34, w35, w36, w37, w38])), (lo, .inl (cI, 48, .inl fl)), (hi, .inl (cI, 48, .inl fh)), (nl, .inl (cI, 48, .inl (upd (fa_fill fl gl i2) (nI i2).toNatClampNeg (fl i2)))), (nh, .inl (cI, 48, .inl (fa_fill fh gh i2)))] H := hP
        have hD : va_D _ [(qm, .inr (11, [w0, w1, .ref lo, .ref hi, .ref nl, .ref nh, w6, w7, w8, w9, w10, w11, w12, w13, w14, w15, w16, w17, w18, w19, w20, w21, w22, w23, w24, w25, w26, w27, w28, w29, w30, w31, w32, w33, w34, w35, w36, w37, w38])), (lo, .inl (cI, 48, .inl fl)), (hi, .inl (cI, 48, .inl fh)), (nl, .inl (cI, 48, .inl (upd (fa_fill fl gl i2) (nI i2).toNatClampNeg (fl i2)))), (nh, .inl (cI, 48, .inl (fa_fill fh gh i2)))] := hD
        have hP := va_P_cg hP 3 (fa_fill fl gl (i2 + 1)) rfl (fun j _ => by rw [nI_clamp (by omega)]; exact congrFun (fa_fill_succ fl gl i2) j)
        have hD := va_D_cg hD 3 (fa_fill fl gl (i2 + 1)) rfl
        have hP : va_P (dC, dI) vwCl [(qm, .inr (11, [w0, w1, .ref lo, .ref hi, .ref nl, .ref nh, w6, w7, w8, w9, w10, w11, w12, w13, w14, w15, w16, w17, w18, w19, w20, w21, w22, w23, w24, w25, w26, w27, w28, w29, w30, w31, w32, w33, w34, w35, w36, w37, w38])), (lo, .inl (cI, 48, .inl fl)), (hi, .inl (cI, 48, .inl fh)), (nl, .inl (cI, 48, .inl (fa_fill fl gl (i2 + 1)))), (nh, .inl (cI, 48, .inl (fa_fill fh gh i2)))] H := hP
        have hD : va_D _ [(qm, .inr (11, [w0, w1, .ref lo, .ref hi, .ref nl, .ref nh, w6, w7, w8, w9, w10, w11, w12, w13, w14, w15, w16, w17, w18, w19, w20, w21, w22, w23, w24, w25, w26, w27, w28, w29, w30, w31, w32, w33, w34, w35, w36, w37, w38])), (lo, .inl (cI, 48, .inl fl)), (hi, .inl (cI, 48, .inl fh)), (nl, .inl (cI, 48, .inl (fa_fill fl gl (i2 + 1)))), (nh, .inl (cI, 48, .inl (fa_fill fh gh i2)))] := hD
        refine lv_aload_n hx hb dX11_layNew_20 rfl (lv_at hl 1 rfl) ?_
        refine va_get (D := (dC, dI)) (ci := 11) (v := .ref nh) (C := RX11) (T := TX11) (N := 39) hx hb hts hiX11 hown hK hP 0 rfl rfl 5 (by decide) (hts (.fieldLink RX11 19 "TributePitchesModel" "newHigh" "[I") (List.mem_of_getElem? (i := 3) rfl)) (fun _ h9 => h9) rfl dX11_layNew_21 ?_
        refine lv_iload_n hx hb dX11_layNew_24 rfl (lv_at hl 0 rfl) ?_
        refine lv_aload_n hx hb dX11_layNew_25 rfl (lv_at hl 1 rfl) ?_
        refine va_get (D := (dC, dI)) (ci := 11) (v := .ref hi) (C := RX11) (T := TX11) (N := 39) hx hb hts hiX11 hown hK hP 0 rfl rfl 3 (by decide) (hts (.fieldLink RX11 13 "TributePitchesModel" "high" "[I") (List.mem_of_getElem? (i := 4) rfl)) (fun _ h9 => h9) rfl dX11_layNew_26 ?_
        refine lv_iload_n hx hb dX11_layNew_29 rfl (lv_at hl 0 rfl) ?_
        refine va_iald hx hb hK hP 2 0 rfl rfl (vp_in_nI (by omega) (by omega)) dX11_layNew_30 ?_
        refine lv_topi (fun v3 ev3 => ?_)
        have ev3 : v3 = fh i2 := by rw [ev3]; rw [nI_clamp (by omega)]
        subst ev3
        refine va_iast hx hb hK hP hD hS 4 0 rfl rfl (vp_in_nI (by omega) (by omega)) dX11_layNew_31 (fun H locs hP hD hS => ?_)
        have hP : va_P (dC, dI) vwCl [(qm, .inr (11, [w0, w1, .ref lo, .ref hi, .ref nl, .ref nh, w6, w7, w8, w9, w10, w11, w12, w13, w14, w15, w16, w17, w18, w19, w20, w21, w22, w23, w24, w25, w26, w27, w28, w29, w30, w31, w32, w33, w34, w35, w36, w37, w38])), (lo, .inl (cI, 48, .inl fl)), (hi, .inl (cI, 48, .inl fh)), (nl, .inl (cI, 48, .inl (fa_fill fl gl (i2 + 1)))), (nh, .inl (cI, 48, .inl (upd (fa_fill fh gh i2) (nI i2).toNatClampNeg (fh i2))))] H := hP
        have hD : va_D _ [(qm, .inr (11, [w0, w1, .ref lo, .ref hi, .ref nl, .ref nh, w6, w7, w8, w9, w10, w11, w12, w13, w14, w15, w16, w17, w18, w19, w20, w21, w22, w23, w24, w25, w26, w27, w28, w29, w30, w31, w32, w33, w34, w35, w36, w37, w38])), (lo, .inl (cI, 48, .inl fl)), (hi, .inl (cI, 48, .inl fh)), (nl, .inl (cI, 48, .inl (fa_fill fl gl (i2 + 1)))), (nh, .inl (cI, 48, .inl (upd (fa_fill fh gh i2) (nI i2).toNatClampNeg (fh i2))))] := hD
        have hP := va_P_cg hP 4 (fa_fill fh gh (i2 + 1)) rfl (fun j _ => by rw [nI_clamp (by omega)]; exact congrFun (fa_fill_succ fh gh i2) j)
        have hD := va_D_cg hD 4 (fa_fill fh gh (i2 + 1)) rfl
        have hP : va_P (dC, dI) vwCl [(qm, .inr (11, [w0, w1, .ref lo, .ref hi, .ref nl, .ref nh, w6, w7, w8, w9, w10, w11, w12, w13, w14, w15, w16, w17, w18, w19, w20, w21, w22, w23, w24, w25, w26, w27, w28, w29, w30, w31, w32, w33, w34, w35, w36, w37, w38])), (lo, .inl (cI, 48, .inl fl)), (hi, .inl (cI, 48, .inl fh)), (nl, .inl (cI, 48, .inl (fa_fill fl gl (i2 + 1)))), (nh, .inl (cI, 48, .inl (fa_fill fh gh (i2 + 1))))] H := hP
        have hD : va_D _ [(qm, .inr (11, [w0, w1, .ref lo, .ref hi, .ref nl, .ref nh, w6, w7, w8, w9, w10, w11, w12, w13, w14, w15, w16, w17, w18, w19, w20, w21, w22, w23, w24, w25, w26, w27, w28, w29, w30, w31, w32, w33, w34, w35, w36, w37, w38])), (lo, .inl (cI, 48, .inl fl)), (hi, .inl (cI, 48, .inl fh)), (nl, .inl (cI, 48, .inl (fa_fill fl gl (i2 + 1)))), (nh, .inl (cI, 48, .inl (fa_fill fh gh (i2 + 1))))] := hD
        refine lv_iinc (v := nI (i2 + 1)) (lv' := [(1, .int (nI (i2 + 1))), (0, .ref qm)]) hx hb dX11_layNew_32 hl (k := 0) rfl (nI_1 i2) (by decide) rfl (fun ls hl => ?_)
        refine lv_goto (tgt := 2) hx hb dX11_layNew_35 (by decide) ?_
        exact ihi2 (i2 + 1)  _ _ ls (by omega) (by omega)  (hP.sub [0, 1, 2, 3, 4] rfl) (hD.sub [0, 1, 2, 3, 4] (by decide) rfl) hS (lv_sub hl [0, 1] rfl)
  exact loop2 (48 + 1 - 0) 0  _ _ ls (by omega) (by omega)  hP hD hS (lv_sub hl [0, 1] rfl)
def pR_rise (zr : RS2) (dd : Int32) (r : Int32) (u : RS2) : Prop :=
  ((0 ≤ dd ∧ dd ≤ 1000) ∧ (dd ≤ (rs_i zr 1)) ∧ ∃ fl1_6 : Nat → Int32, ∃ fh1_7 : Nat → Int32, ∃ al1_8 : Nat → Int32, ∃ ah1_9 : Nat → Int32, ∃ cq1_10 : Int32, ∃ fa1_11 : Int32, ∃ r5 : Int32, (((minL dd (rs_I zr 2) al1_8 ∧ maxH dd (rs_I zr 3) ah1_9) ∧ (rngL al1_8 ∧ rngL ah1_9)) ∧ ((r5 = -3 ∧ (∃ j, j < 48 ∧ ah1_9 j < al1_8 j) ∧ fl1_6 = (rs_I zr 2) ∧ fh1_7 = (rs_I zr 3) ∧ fa1_11 = (rs_i zr 1)) ∨ (r5 = nI (fa_cnt (chg (rs_I zr 2) (rs_I zr 3) al1_8 ah1_9) 48) ∧ (∀ j, j < 48 → ¬ ah1_9 j < al1_8 j) ∧ (∀ s n, s < 48 → n < 48 → nbr s n → (al1_8 n).toInt - dd.toInt ≤ (al1_8 s).toInt ∧ (ah1_9 s).toInt ≤ (ah1_9 n).toInt + dd.toInt) ∧ fl1_6 = al1_8 ∧ fh1_7 = ah1_9 ∧ fa1_11 = dd))) ∧ r = (r5) ∧ u = (va_up (va_up (rs_i zr) 1 fa1_11) 6 cq1_10, rs_n zr, va_up (va_up (va_up (va_up (rs_I zr) 2 fl1_6) 3 fh1_7) 4 al1_8) 5 ah1_9, rs_L zr)) ∨
  ((0 ≤ dd ∧ dd ≤ 1000) ∧ (¬ dd ≤ (rs_i zr 1)) ∧ r = ((-3)) ∧ u = zr) ∨
  ((¬ (0 ≤ dd ∧ dd ≤ 1000)) ∧ r = ((-2)) ∧ u = zr)
set_option maxHeartbeats 4000000 in
theorem lr_rise_0 (qm : Nat) (cI cJ cZ : ClassId) (ad : Nat → Nat) (zr : RS2) (dd : Int32) (fl1_6 : Nat → Int32) (fh1_7 : Nat → Int32) (al1_8 : Nat → Int32) (ah1_9 : Nat → Int32) (cq1_10 : Int32) (fa1_11 : Int32) (r5 : Int32) (c2 : 0 ≤ dd ∧ dd ≤ 1000) (c3 : dd ≤ (rs_i zr 1)) (hr5 : ((minL dd (rs_I zr 2) al1_8 ∧ maxH dd (rs_I zr 3) ah1_9) ∧ (rngL al1_8 ∧ rngL ah1_9)) ∧ ((r5 = -3 ∧ (∃ j, j < 48 ∧ ah1_9 j < al1_8 j) ∧ fl1_6 = (rs_I zr 2) ∧ fh1_7 = (rs_I zr 3) ∧ fa1_11 = (rs_i zr 1)) ∨ (r5 = nI (fa_cnt (chg (rs_I zr 2) (rs_I zr 3) al1_8 ah1_9) 48) ∧ (∀ j, j < 48 → ¬ ah1_9 j < al1_8 j) ∧ (∀ s n, s < 48 → n < 48 → nbr s n → (al1_8 n).toInt - dd.toInt ≤ (al1_8 s).toInt ∧ (ah1_9 s).toInt ≤ (ah1_9 n).toInt + dd.toInt) ∧ fl1_6 = al1_8 ∧ fh1_7 = ah1_9 ∧ fa1_11 = dd))) (hI : invR zr) : invR (va_up (va_up (rs_i zr) 1 fa1_11) 6 cq1_10, rs_n zr, va_up (va_up (va_up (va_up (rs_I zr) 2 fl1_6) 3 fh1_7) 4 al1_8) 5 ah1_9, rs_L zr) ∧ rW qm cI cJ cZ ad (va_up (va_up (rs_i zr) 1 fa1_11) 6 cq1_10, rs_n zr, va_up (va_up (va_up (va_up (rs_I zr) 2 fl1_6) 3 fh1_7) 4 al1_8) 5 ah1_9, rs_L zr) = [(qm, .inr (11, [.int (rs_i zr 0), .int fa1_11, .ref (ad 2), .ref (ad 3), .ref (ad 4), .ref (ad 5), .int cq1_10, .ref (ad 7), .ref (ad 8), .ref (ad 9), .ref (ad 10), .int (nI (rs_n zr 0)), .ref (ad 12), .ref (ad 13), .ref (ad 14), .ref (ad 15), .ref (ad 16), .int (nI (rs_n zr 1)), .ref (ad 18), .ref (ad 19), .int (rs_i zr 20), .int (rs_i zr 21), .int (rs_i zr 22), .int (rs_i zr 23), .int (nI (rs_n zr 2)), .ref (ad 25), .ref (ad 26), .ref (ad 27), .ref (ad 28), .ref (ad 29), .ref (ad 30), .ref (ad 31), .ref (ad 32), .ref (ad 33), .int (nI (rs_n zr 3)), .ref (ad 35), .ref (ad 36), .ref (ad 37), .int (rs_i zr 38)])), (ad 2, .inl (cI, 48, .inl fl1_6)), (ad 3, .inl (cI, 48, .inl fh1_7)), (ad 4, .inl (cI, 48, .inl al1_8)), (ad 5, .inl (cI, 48, .inl ah1_9)), rcI cI ad zr 7 4, rcI cI ad zr 8 4, rcI cI ad zr 9 192, rcI cI ad zr 10 48, rcI cI ad zr 12 12, rcI cI ad zr 13 12, rcI cI ad zr 14 12, rcI cI ad zr 15 12, rcI cI ad zr 16 12, rcI cI ad zr 18 8, rcJ cJ ad zr 19 8, rcI cI ad zr 25 40, rcI cI ad zr 26 40, rcI cI ad zr 27 40, rcI cZ ad zr 28 40, rcJ cJ ad zr 29 40, rcJ cJ ad zr 30 40, rcJ cJ ad zr 31 40, rcJ cJ ad zr 32 40, rcJ cJ ad zr 33 40, rcI cI ad zr 35 80, rcI cI ad zr 36 80, rcI cI ad zr 37 80] := by
  obtain ⟨⟨hn0, hn1, hn2, hn3⟩, hfar, hlh, hss, hsold, htk, hpk⟩ := id hI
  exact ⟨(inv_nar hI rfl rfl rfl (nar_ok hr5 (rng_of hlh) hfar (rg_d c2)).1 (nar_ok hr5 (rng_of hlh) hfar (rg_d c2)).2), by simp [rW, rcO, rcI, rcJ, rs_i, rs_n, rs_I, rs_L, va_up, upd]⟩
set_option maxHeartbeats 4000000 in
set_option maxRecDepth 100000 in
theorem M_rise (l : Launch) (dC : Nat → ClassId) (dI : Nat → Nat → Nat) (cI cJ cZ : ClassId) (sz : Nat) (qm : Nat) (ad : Nat → Nat) (zr : RS2) (dd : Int32) (hI : invR zr) : Met l yX11_rise wsX11_rise ({ frames := 4, cells := 0, slots := 0, locals := 130 }) (pw (dC, dI) [(cI, .int), (cJ, .long), (cZ, .boolean)] (rW qm cI cJ cZ ad zr) sz [.ref qm, .int dd]) (va_Qi (fun r (u : RS2) => invR u ∧ pR_rise zr dd r u) (fun u t => bw (dC, dI) [(cI, .int), (cJ, .long), (cZ, .boolean)] (va_A (rW qm cI cJ cZ ad zr) sz) (rW qm cI cJ cZ ad u) t) (va_A (rW qm cI cJ cZ ad zr) sz)) 0 0 (va_A (rW qm cI cJ cZ ad zr) sz) := by
  refine pw_met (cc := cX11_rise) (maxL := 2) (ret := (some .int)) (by decide) rfl (Nat.le_of_ble_eq_true rfl) ?_
  intro p e s m below meth c0 hx hb hr hml hown hlocks hnm hts hP0 hK hD0 hN hsz hA hS ls hl
  subst hsz
  have hP : va_P (dC, dI) vwCl [rcO qm ad zr, rcI cI ad zr 2 48, rcI cI ad zr 3 48, rcI cI ad zr 4 48, rcI cI ad zr 5 48, rcI cI ad zr 7 4, rcI cI ad zr 8 4, rcI cI ad zr 9 192, rcI cI ad zr 10 48, rcI cI ad zr 12 12, rcI cI ad zr 13 12, rcI cI ad zr 14 12, rcI cI ad zr 15 12, rcI cI ad zr 16 12, rcI cI ad zr 18 8, rcJ cJ ad zr 19 8, rcI cI ad zr 25 40, rcI cI ad zr 26 40, rcI cI ad zr 27 40, rcI cZ ad zr 28 40, rcJ cJ ad zr 29 40, rcJ cJ ad zr 30 40, rcJ cJ ad zr 31 40, rcJ cJ ad zr 32 40, rcJ cJ ad zr 33 40, rcI cI ad zr 35 80, rcI cI ad zr 36 80, rcI cI ad zr 37 80] s.heap := hP0
  have hD : va_D (va_A (rW qm cI cJ cZ ad zr) s.heap.size) [rcO qm ad zr, rcI cI ad zr 2 48, rcI cI ad zr 3 48, rcI cI ad zr 4 48, rcI cI ad zr 5 48, rcI cI ad zr 7 4, rcI cI ad zr 8 4, rcI cI ad zr 9 192, rcI cI ad zr 10 48, rcI cI ad zr 12 12, rcI cI ad zr 13 12, rcI cI ad zr 14 12, rcI cI ad zr 15 12, rcI cI ad zr 16 12, rcI cI ad zr 18 8, rcJ cJ ad zr 19 8, rcI cI ad zr 25 40, rcI cI ad zr 26 40, rcI cI ad zr 27 40, rcI cZ ad zr 28 40, rcJ cJ ad zr 29 40, rcJ cJ ad zr 30 40, rcJ cJ ad zr 31 40, rcJ cJ ad zr 32 40, rcJ cJ ad zr 33 40, rcI cI ad zr 35 80, rcI cI ad zr 36 80, rcI cI ad zr 37 80] := hD0
  obtain ⟨⟨hn0, hn1, hn2, hn3⟩, hfar, hlh, hss, hsold, htk, hpk⟩ := id hI
  have hl : lv_has ls 2 [(0, .ref qm), (1, .int dd)] := hl
  have hiX11 : ∀ w ∈ wsX110, w ∈ wsX11_rise := fun _ h => List.mem_cons_of_mem _ (List.mem_append_right _ (h))
  generalize hQ : MQ _ _ _ _ _ _ _ = Q
  refine lv_iload_n hx hb dX11_rise_0 rfl (lv_at hl 1 rfl) ?_
  refine lv_i2l (v := dd.toInt64) hx hb dX11_rise_1 rfl ?_
  refine lv_lconst (v := 0) hx hb dX11_rise_2 (by decide) ?_
  refine lv_ldc2 (v := 1000) hx hb hown (hts (.constantLong RX11 133 (1000)) (List.mem_of_getElem? (i := 1) rfl)) dX11_rise_3 ?_
  refine vp_callSi (va_Run.run (va_runS (As := [.long dd.toInt64, .long 0, .long 1000]) (rest := []) ⟨hx, hb, hml, hown, hts⟩ (c_X11_in l dd.toInt64 0 1000 ) (va_cwS 3 hts gX11_rise_X11_in rfl rfl rfl (by decide +kernel) ⟨Nat.le_of_ble_eq_true rfl, Nat.le_of_ble_eq_true rfl⟩) (p0_preS hN) rfl rfl hl.1 rfl (lv_room (Nat.le_of_ble_eq_true rfl)) dX11_rise_6 ⟨Nat.le_of_ble_eq_true rfl, Nat.le_of_ble_eq_true rfl⟩)) (fun r1 hr1 => ?_)
  have hr1 : r1 = if 0 ≤ dd.toInt64 ∧ dd.toInt64 ≤ 1000 then 1 else 0 := hr1
  have hr1 := hr1.trans (in_w _ 0 1000 (by decide) (by decide))
  refine lv_if_ne (tgt := 15) hx hb dX11_rise_9 (by decide) (fun c2 => ?_) (fun c2 => ?_)
  · skip
    have c2 := (fa_bool_prop hr1).2.mp c2
    refine lv_iload_n hx hb dX11_rise_15 rfl (lv_at hl 1 rfl) ?_
    refine lv_aload_n hx hb dX11_rise_16 rfl (lv_at hl 0 rfl) ?_
    refine va_get (D := (dC, dI)) (ci := 11) (v := .int (rs_i zr 1)) (C := RX11) (T := TX11) (N := 39) hx hb hts hiX11 hown hK hP 0 rfl rfl 1 (by decide) (hts (.fieldLink RX11 93 "TributePitchesModel" "far" "I") (List.mem_of_getElem? (i := 2) rfl)) (fun _ h9 => h9) rfl dX11_rise_17 ?_
    refine lv_icmp_le (tgt := 26) hx hb dX11_rise_20 (by decide) (fun c3 => ?_) (fun c3 => ?_)
    · skip
      refine lv_aload_n hx hb dX11_rise_26 rfl (lv_at hl 0 rfl) ?_
      have hPc := hP.sub (ws' := [rcO qm ad zr, rcI cI ad zr 2 48, rcI cI ad zr 3 48, rcI cI ad zr 4 48, rcI cI ad zr 5 48]) [0, 1, 2, 3, 4] rfl
      have hDc := hD.sub (ws' := [rcO qm ad zr, rcI cI ad zr 2 48, rcI cI ad zr 3 48, rcI cI ad zr 4 48, rcI cI ad zr 5 48]) [0, 1, 2, 3, 4] (by decide) rfl
      have hKc := hK.sub (tys' := [(cI, .int)]) [0] rfl
      have hFc := va_free (wc := [rcO qm ad zr, rcI cI ad zr 2 48, rcI cI ad zr 3 48, rcI cI ad zr 4 48, rcI cI ad zr 5 48]) hD hS hA [0, 1, 2, 3, 4] rfl
      refine va_callv (va_runV (As := []) (rest := []) ⟨hx, hb, hml, hown, hts⟩ (c_X11_layNew l dC dI cI _ qm (.int (rs_i zr 0)) (.int (rs_i zr 1)) (.int (rs_i zr 6)) (.ref (ad 7)) (.ref (ad 8)) (.ref (ad 9)) (.ref (ad 10)) (.int (nI (rs_n zr 0))) (.ref (ad 12)) (.ref (ad 13)) (.ref (ad 14)) (.ref (ad 15)) (.ref (ad 16)) (.int (nI (rs_n zr 1))) (.ref (ad 18)) (.ref (ad 19)) (.int (rs_i zr 20)) (.int (rs_i zr 21)) (.int (rs_i zr 22)) (.int (rs_i zr 23)) (.int (nI (rs_n zr 2))) (.ref (ad 25)) (.ref (ad 26)) (.ref (ad 27)) (.ref (ad 28)) (.ref (ad 29)) (.ref (ad 30)) (.ref (ad 31)) (.ref (ad 32)) (.ref (ad 33)) (.int (nI (rs_n zr 3))) (.ref (ad 35)) (.ref (ad 36)) (.ref (ad 37)) (.int (rs_i zr 38)) (ad 4) (ad 5) (ad 2) (ad 3) (rs_I zr 2) (rs_I zr 3) (rs_I zr 4) (rs_I zr 5) ) (cwV 0 hts gX11_rise_X11_layNew rfl rfl rfl (by decide +kernel) ⟨Nat.le_of_ble_eq_true rfl, Nat.le_of_ble_eq_true rfl⟩) (pw_preV (va_recv hKc hPc (ci := 11) (q0 := 0) rfl rfl) hPc hKc hDc hN) rfl rfl hl.1 rfl (lv_room (Nat.le_of_ble_eq_true rfl)) dX11_rise_27 ⟨Nat.le_of_ble_eq_true rfl, Nat.le_of_ble_eq_true rfl⟩) hS (fun q _ h => hFc q h) hFc (fun u t H1 locs ht hvm hw hB hz1 hk1 hS => ?_)
      obtain ⟨hP1, hK1, hD1⟩ := hB
      rw [ht] at hP1
      obtain ⟨hP, hD⟩ := va_join (wr := [rcI cI ad zr 7 4, rcI cI ad zr 8 4, rcI cI ad zr 9 192, rcI cI ad zr 10 48, rcI cI ad zr 12 12, rcI cI ad zr 13 12, rcI cI ad zr 14 12, rcI cI ad zr 15 12, rcI cI ad zr 16 12, rcI cI ad zr 18 8, rcJ cJ ad zr 19 8, rcI cI ad zr 25 40, rcI cI ad zr 26 40, rcI cI ad zr 27 40, rcI cZ ad zr 28 40, rcJ cJ ad zr 29 40, rcJ cJ ad zr 30 40, rcJ cJ ad zr 31 40, rcJ cJ ad zr 32 40, rcJ cJ ad zr 33 40, rcI cI ad zr 35 80, rcI cI ad zr 36 80, rcI cI ad zr 37 80]) (w1 := [(qm, .inr (11, [.int (rs_i zr 0), .int (rs_i zr 1), .ref (ad 2), .ref (ad 3), .ref (ad 4), .ref (ad 5), .int (rs_i zr 6), .ref (ad 7), .ref (ad 8), .ref (ad 9), .ref (ad 10), .int (nI (rs_n zr 0)), .ref (ad 12), .ref (ad 13), .ref (ad 14), .ref (ad 15), .ref (ad 16), .int (nI (rs_n zr 1)), .ref (ad 18), .ref (ad 19), .int (rs_i zr 20), .int (rs_i zr 21), .int (rs_i zr 22), .int (rs_i zr 23), .int (nI (rs_n zr 2)), .ref (ad 25), .ref (ad 26), .ref (ad 27), .ref (ad 28), .ref (ad 29), .ref (ad 30), .ref (ad 31), .ref (ad 32), .ref (ad 33), .int (nI (rs_n zr 3)), .ref (ad 35), .ref (ad 36), .ref (ad 37), .int (rs_i zr 38)])), (ad 2, .inl (cI, 48, .inl (rs_I zr 2))), (ad 3, .inl (cI, 48, .inl (rs_I zr 3))), (ad 4, .inl (cI, 48, .inl (rs_I zr 2))), (ad 5, .inl (cI, 48, .inl (rs_I zr 3)))]) hP hD [0, 1, 2, 3, 4] [5, 6, 7, 8, 9, 10, 11, 12, 13, 14, 15, 16, 17, 18, 19, 20, 21, 22, 23, 24, 25, 26, 27] rfl rfl (by decide) (by decide) hk1 hFc hP1 hD1
      generalize H1 = H at hP hS ⊢
      have hP : va_P (dC, dI) vwCl [rcI cI ad zr 7 4, rcI cI ad zr 8 4, rcI cI ad zr 9 192, rcI cI ad zr 10 48, rcI cI ad zr 12 12, rcI cI ad zr 13 12, rcI cI ad zr 14 12, rcI cI ad zr 15 12, rcI cI ad zr 16 12, rcI cI ad zr 18 8, rcJ cJ ad zr 19 8, rcI cI ad zr 25 40, rcI cI ad zr 26 40, rcI cI ad zr 27 40, rcI cZ ad zr 28 40, rcJ cJ ad zr 29 40, rcJ cJ ad zr 30 40, rcJ cJ ad zr 31 40, rcJ cJ ad zr 32 40, rcJ cJ ad zr 33 40, rcI cI ad zr 35 80, rcI cI ad zr 36 80, rcI cI ad zr 37 80, (qm, .inr (11, [.int (rs_i zr 0), .int (rs_i zr 1), .ref (ad 2), .ref (ad 3), .ref (ad 4), .ref (ad 5), .int (rs_i zr 6), .ref (ad 7), .ref (ad 8), .ref (ad 9), .ref (ad 10), .int (nI (rs_n zr 0)), .ref (ad 12), .ref (ad 13), .ref (ad 14), .ref (ad 15), .ref (ad 16), .int (nI (rs_n zr 1)), .ref (ad 18), .ref (ad 19), .int (rs_i zr 20), .int (rs_i zr 21), .int (rs_i zr 22), .int (rs_i zr 23), .int (nI (rs_n zr 2)), .ref (ad 25), .ref (ad 26), .ref (ad 27), .ref (ad 28), .ref (ad 29), .ref (ad 30), .ref (ad 31), .ref (ad 32), .ref (ad 33), .int (nI (rs_n zr 3)), .ref (ad 35), .ref (ad 36), .ref (ad 37), .int (rs_i zr 38)])), (ad 2, .inl (cI, 48, .inl (rs_I zr 2))), (ad 3, .inl (cI, 48, .inl (rs_I zr 3))), (ad 4, .inl (cI, 48, .inl (rs_I zr 2))), (ad 5, .inl (cI, 48, .inl (rs_I zr 3)))] H := hP
      have hD : va_D _ [rcI cI ad zr 7 4, rcI cI ad zr 8 4, rcI cI ad zr 9 192, rcI cI ad zr 10 48, rcI cI ad zr 12 12, rcI cI ad zr 13 12, rcI cI ad zr 14 12, rcI cI ad zr 15 12, rcI cI ad zr 16 12, rcI cI ad zr 18 8, rcJ cJ ad zr 19 8, rcI cI ad zr 25 40, rcI cI ad zr 26 40, rcI cI ad zr 27 40, rcI cZ ad zr 28 40, rcJ cJ ad zr 29 40, rcJ cJ ad zr 30 40, rcJ cJ ad zr 31 40, rcJ cJ ad zr 32 40, rcJ cJ ad zr 33 40, rcI cI ad zr 35 80, rcI cI ad zr 36 80, rcI cI ad zr 37 80, (qm, .inr (11, [.int (rs_i zr 0), .int (rs_i zr 1), .ref (ad 2), .ref (ad 3), .ref (ad 4), .ref (ad 5), .int (rs_i zr 6), .ref (ad 7), .ref (ad 8), .ref (ad 9), .ref (ad 10), .int (nI (rs_n zr 0)), .ref (ad 12), .ref (ad 13), .ref (ad 14), .ref (ad 15), .ref (ad 16), .int (nI (rs_n zr 1)), .ref (ad 18), .ref (ad 19), .int (rs_i zr 20), .int (rs_i zr 21), .int (rs_i zr 22), .int (rs_i zr 23), .int (nI (rs_n zr 2)), .ref (ad 25), .ref (ad 26), .ref (ad 27), .ref (ad 28), .ref (ad 29), .ref (ad 30), .ref (ad 31), .ref (ad 32), .ref (ad 33), .int (nI (rs_n zr 3)), .ref (ad 35), .ref (ad 36), .ref (ad 37), .int (rs_i zr 38)])), (ad 2, .inl (cI, 48, .inl (rs_I zr 2))), (ad 3, .inl (cI, 48, .inl (rs_I zr 3))), (ad 4, .inl (cI, 48, .inl (rs_I zr 2))), (ad 5, .inl (cI, 48, .inl (rs_I zr 3)))] := hD
      refine lv_aload_n hx hb dX11_rise_30 rfl (lv_at hl 0 rfl) ?_
      refine lv_iload_n hx hb dX11_rise_31 rfl (lv_at hl 1 rfl) ?_
      have hPc := hP.sub (ws' := [(qm, .inr (11, [.int (rs_i zr 0), .int (rs_i zr 1), .ref (ad 2), .ref (ad 3), .ref (ad 4), .ref (ad 5), .int (rs_i zr 6), .ref (ad 7), .ref (ad 8), .ref (ad 9), .ref (ad 10), .int (nI (rs_n zr 0)), .ref (ad 12), .ref (ad 13), .ref (ad 14), .ref (ad 15), .ref (ad 16), .int (nI (rs_n zr 1)), .ref (ad 18), .ref (ad 19), .int (rs_i zr 20), .int (rs_i zr 21), .int (rs_i zr 22), .int (rs_i zr 23), .int (nI (rs_n zr 2)), .ref (ad 25), .ref (ad 26), .ref (ad 27), .ref (ad 28), .ref (ad 29), .ref (ad 30), .ref (ad 31), .ref (ad 32), .ref (ad 33), .int (nI (rs_n zr 3)), .ref (ad 35), .ref (ad 36), .ref (ad 37), .int (rs_i zr 38)])), (ad 2, .inl (cI, 48, .inl (rs_I zr 2))), (ad 3, .inl (cI, 48, .inl (rs_I zr 3))), (ad 4, .inl (cI, 48, .inl (rs_I zr 2))), (ad 5, .inl (cI, 48, .inl (rs_I zr 3)))]) [23, 24, 25, 26, 27] rfl
      have hDc := hD.sub (ws' := [(qm, .inr (11, [.int (rs_i zr 0), .int (rs_i zr 1), .ref (ad 2), .ref (ad 3), .ref (ad 4), .ref (ad 5), .int (rs_i zr 6), .ref (ad 7), .ref (ad 8), .ref (ad 9), .ref (ad 10), .int (nI (rs_n zr 0)), .ref (ad 12), .ref (ad 13), .ref (ad 14), .ref (ad 15), .ref (ad 16), .int (nI (rs_n zr 1)), .ref (ad 18), .ref (ad 19), .int (rs_i zr 20), .int (rs_i zr 21), .int (rs_i zr 22), .int (rs_i zr 23), .int (nI (rs_n zr 2)), .ref (ad 25), .ref (ad 26), .ref (ad 27), .ref (ad 28), .ref (ad 29), .ref (ad 30), .ref (ad 31), .ref (ad 32), .ref (ad 33), .int (nI (rs_n zr 3)), .ref (ad 35), .ref (ad 36), .ref (ad 37), .int (rs_i zr 38)])), (ad 2, .inl (cI, 48, .inl (rs_I zr 2))), (ad 3, .inl (cI, 48, .inl (rs_I zr 3))), (ad 4, .inl (cI, 48, .inl (rs_I zr 2))), (ad 5, .inl (cI, 48, .inl (rs_I zr 3)))]) [23, 24, 25, 26, 27] (by decide) rfl
      have hKc := hK.sub (tys' := [(cI, .int)]) [0] rfl
      have hFc := va_free (wc := [(qm, .inr (11, [.int (rs_i zr 0), .int (rs_i zr 1), .ref (ad 2), .ref (ad 3), .ref (ad 4), .ref (ad 5), .int (rs_i zr 6), .ref (ad 7), .ref (ad 8), .ref (ad 9), .ref (ad 10), .int (nI (rs_n zr 0)), .ref (ad 12), .ref (ad 13), .ref (ad 14), .ref (ad 15), .ref (ad 16), .int (nI (rs_n zr 1)), .ref (ad 18), .ref (ad 19), .int (rs_i zr 20), .int (rs_i zr 21), .int (rs_i zr 22), .int (rs_i zr 23), .int (nI (rs_n zr 2)), .ref (ad 25), .ref (ad 26), .ref (ad 27), .ref (ad 28), .ref (ad 29), .ref (ad 30), .ref (ad 31), .ref (ad 32), .ref (ad 33), .int (nI (rs_n zr 3)), .ref (ad 35), .ref (ad 36), .ref (ad 37), .int (rs_i zr 38)])), (ad 2, .inl (cI, 48, .inl (rs_I zr 2))), (ad 3, .inl (cI, 48, .inl (rs_I zr 3))), (ad 4, .inl (cI, 48, .inl (rs_I zr 2))), (ad 5, .inl (cI, 48, .inl (rs_I zr 3)))]) hD hS hA [23, 24, 25, 26, 27] rfl
      refine va_calli (va_runV (As := [.int dd]) (rest := []) ⟨hx, hb, hml, hown, hts⟩ (r_narrowed l dC dI cI _ qm (.int (rs_i zr 0)) (.ref (ad 7)) (.ref (ad 8)) (.ref (ad 9)) (.ref (ad 10)) (.int (nI (rs_n zr 0))) (.ref (ad 12)) (.ref (ad 13)) (.ref (ad 14)) (.ref (ad 15)) (.ref (ad 16)) (.int (nI (rs_n zr 1))) (.ref (ad 18)) (.ref (ad 19)) (.int (rs_i zr 20)) (.int (rs_i zr 21)) (.int (rs_i zr 22)) (.int (rs_i zr 23)) (.int (nI (rs_n zr 2))) (.ref (ad 25)) (.ref (ad 26)) (.ref (ad 27)) (.ref (ad 28)) (.ref (ad 29)) (.ref (ad 30)) (.ref (ad 31)) (.ref (ad 32)) (.ref (ad 33)) (.int (nI (rs_n zr 3))) (.ref (ad 35)) (.ref (ad 36)) (.ref (ad 37)) (.int (rs_i zr 38)) (ad 4) (ad 5) (ad 2) (ad 3) dd (rs_i zr 6) (rs_i zr 1) (rs_I zr 2) (rs_I zr 3) (rs_I zr 2) (rs_I zr 3) (rg_d c2) (rng_of hlh).1 (rng_of hlh).2) (cwV 1 hts gX11_rise_X11_narrowed rfl rfl rfl (by decide +kernel) ⟨Nat.le_of_ble_eq_true rfl, Nat.le_of_ble_eq_true rfl⟩) (pw_preV (va_recv hKc hPc (ci := 11) (q0 := 0) rfl rfl) hPc hKc hDc hN) rfl rfl hl.1 rfl (lv_room (Nat.le_of_ble_eq_true rfl)) dX11_rise_32 ⟨Nat.le_of_ble_eq_true rfl, Nat.le_of_ble_eq_true rfl⟩) hS (fun q _ h => hFc q h) hFc (fun r5 u t H1 locs ht hvm hw hB hz1 hk1 hS => ?_)
      obtain ⟨fl1_6, fh1_7, al1_8, ah1_9, cq1_10, fa1_11⟩ := u
      have hr5 : ((minL dd (rs_I zr 2) al1_8 ∧ maxH dd (rs_I zr 3) ah1_9) ∧ (rngL al1_8 ∧ rngL ah1_9)) ∧ ((r5 = -3 ∧ (∃ j, j < 48 ∧ ah1_9 j < al1_8 j) ∧ fl1_6 = (rs_I zr 2) ∧ fh1_7 = (rs_I zr 3) ∧ fa1_11 = (rs_i zr 1)) ∨ (r5 = nI (fa_cnt (chg (rs_I zr 2) (rs_I zr 3) al1_8 ah1_9) 48) ∧ (∀ j, j < 48 → ¬ ah1_9 j < al1_8 j) ∧ (∀ s n, s < 48 → n < 48 → nbr s n → (al1_8 n).toInt - dd.toInt ≤ (al1_8 s).toInt ∧ (ah1_9 s).toInt ≤ (ah1_9 n).toInt + dd.toInt) ∧ fl1_6 = al1_8 ∧ fh1_7 = ah1_9 ∧ fa1_11 = dd)) := hw
      obtain ⟨hP1, hK1, hD1⟩ := hB
      rw [ht] at hP1
      obtain ⟨hP, hD⟩ := va_join (wr := [rcI cI ad zr 7 4, rcI cI ad zr 8 4, rcI cI ad zr 9 192, rcI cI ad zr 10 48, rcI cI ad zr 12 12, rcI cI ad zr 13 12, rcI cI ad zr 14 12, rcI cI ad zr 15 12, rcI cI ad zr 16 12, rcI cI ad zr 18 8, rcJ cJ ad zr 19 8, rcI cI ad zr 25 40, rcI cI ad zr 26 40, rcI cI ad zr 27 40, rcI cZ ad zr 28 40, rcJ cJ ad zr 29 40, rcJ cJ ad zr 30 40, rcJ cJ ad zr 31 40, rcJ cJ ad zr 32 40, rcJ cJ ad zr 33 40, rcI cI ad zr 35 80, rcI cI ad zr 36 80, rcI cI ad zr 37 80]) (w1 := [(qm, .inr (11, [.int (rs_i zr 0), .int fa1_11, .ref (ad 2), .ref (ad 3), .ref (ad 4), .ref (ad 5), .int cq1_10, .ref (ad 7), .ref (ad 8), .ref (ad 9), .ref (ad 10), .int (nI (rs_n zr 0)), .ref (ad 12), .ref (ad 13), .ref (ad 14), .ref (ad 15), .ref (ad 16), .int (nI (rs_n zr 1)), .ref (ad 18), .ref (ad 19), .int (rs_i zr 20), .int (rs_i zr 21), .int (rs_i zr 22), .int (rs_i zr 23), .int (nI (rs_n zr 2)), .ref (ad 25), .ref (ad 26), .ref (ad 27), .ref (ad 28), .ref (ad 29), .ref (ad 30), .ref (ad 31), .ref (ad 32), .ref (ad 33), .int (nI (rs_n zr 3)), .ref (ad 35), .ref (ad 36), .ref (ad 37), .int (rs_i zr 38)])), (ad 2, .inl (cI, 48, .inl fl1_6)), (ad 3, .inl (cI, 48, .inl fh1_7)), (ad 4, .inl (cI, 48, .inl al1_8)), (ad 5, .inl (cI, 48, .inl ah1_9))]) hP hD [23, 24, 25, 26, 27] [0, 1, 2, 3, 4, 5, 6, 7, 8, 9, 10, 11, 12, 13, 14, 15, 16, 17, 18, 19, 20, 21, 22] rfl rfl (by decide) (by decide) hk1 hFc hP1 hD1
      generalize H1 = H at hP hS ⊢
      have hP : va_P (dC, dI) vwCl [rcI cI ad zr 7 4, rcI cI ad zr 8 4, rcI cI ad zr 9 192, rcI cI ad zr 10 48, rcI cI ad zr 12 12, rcI cI ad zr 13 12, rcI cI ad zr 14 12, rcI cI ad zr 15 12, rcI cI ad zr 16 12, rcI cI ad zr 18 8, rcJ cJ ad zr 19 8, rcI cI ad zr 25 40, rcI cI ad zr 26 40, rcI cI ad zr 27 40, rcI cZ ad zr 28 40, rcJ cJ ad zr 29 40, rcJ cJ ad zr 30 40, rcJ cJ ad zr 31 40, rcJ cJ ad zr 32 40, rcJ cJ ad zr 33 40, rcI cI ad zr 35 80, rcI cI ad zr 36 80, rcI cI ad zr 37 80, (qm, .inr (11, [.int (rs_i zr 0), .int fa1_11, .ref (ad 2), .ref (ad 3), .ref (ad 4), .ref (ad 5), .int cq1_10, .ref (ad 7), .ref (ad 8), .ref (ad 9), .ref (ad 10), .int (nI (rs_n zr 0)), .ref (ad 12), .ref (ad 13), .ref (ad 14), .ref (ad 15), .ref (ad 16), .int (nI (rs_n zr 1)), .ref (ad 18), .ref (ad 19), .int (rs_i zr 20), .int (rs_i zr 21), .int (rs_i zr 22), .int (rs_i zr 23), .int (nI (rs_n zr 2)), .ref (ad 25), .ref (ad 26), .ref (ad 27), .ref (ad 28), .ref (ad 29), .ref (ad 30), .ref (ad 31), .ref (ad 32), .ref (ad 33), .int (nI (rs_n zr 3)), .ref (ad 35), .ref (ad 36), .ref (ad 37), .int (rs_i zr 38)])), (ad 2, .inl (cI, 48, .inl fl1_6)), (ad 3, .inl (cI, 48, .inl fh1_7)), (ad 4, .inl (cI, 48, .inl al1_8)), (ad 5, .inl (cI, 48, .inl ah1_9))] H := hP
      have hD : va_D _ [rcI cI ad zr 7 4, rcI cI ad zr 8 4, rcI cI ad zr 9 192, rcI cI ad zr 10 48, rcI cI ad zr 12 12, rcI cI ad zr 13 12, rcI cI ad zr 14 12, rcI cI ad zr 15 12, rcI cI ad zr 16 12, rcI cI ad zr 18 8, rcJ cJ ad zr 19 8, rcI cI ad zr 25 40, rcI cI ad zr 26 40, rcI cI ad zr 27 40, rcI cZ ad zr 28 40, rcJ cJ ad zr 29 40, rcJ cJ ad zr 30 40, rcJ cJ ad zr 31 40, rcJ cJ ad zr 32 40, rcJ cJ ad zr 33 40, rcI cI ad zr 35 80, rcI cI ad zr 36 80, rcI cI ad zr 37 80, (qm, .inr (11, [.int (rs_i zr 0), .int fa1_11, .ref (ad 2), .ref (ad 3), .ref (ad 4), .ref (ad 5), .int cq1_10, .ref (ad 7), .ref (ad 8), .ref (ad 9), .ref (ad 10), .int (nI (rs_n zr 0)), .ref (ad 12), .ref (ad 13), .ref (ad 14), .ref (ad 15), .ref (ad 16), .int (nI (rs_n zr 1)), .ref (ad 18), .ref (ad 19), .int (rs_i zr 20), .int (rs_i zr 21), .int (rs_i zr 22), .int (rs_i zr 23), .int (nI (rs_n zr 2)), .ref (ad 25), .ref (ad 26), .ref (ad 27), .ref (ad 28), .ref (ad 29), .ref (ad 30), .ref (ad 31), .ref (ad 32), .ref (ad 33), .int (nI (rs_n zr 3)), .ref (ad 35), .ref (ad 36), .ref (ad 37), .int (rs_i zr 38)])), (ad 2, .inl (cI, 48, .inl fl1_6)), (ad 3, .inl (cI, 48, .inl fh1_7)), (ad 4, .inl (cI, 48, .inl al1_8)), (ad 5, .inl (cI, 48, .inl ah1_9))] := hD
      subst hQ
      have hlf := lr_rise_0 qm cI cJ cZ ad zr dd fl1_6 fh1_7 al1_8 ah1_9 cq1_10 fa1_11 r5 c2 c3 hr5 hI
      have hP9 : va_P (dC, dI) vwCl (rW qm cI cJ cZ ad (va_up (va_up (rs_i zr) 1 fa1_11) 6 cq1_10, rs_n zr, va_up (va_up (va_up (va_up (rs_I zr) 2 fl1_6) 3 fh1_7) 4 al1_8) 5 ah1_9, rs_L zr)) H := by rw [hlf.2]; exact hP.sub [23, 24, 25, 26, 27, 0, 1, 2, 3, 4, 5, 6, 7, 8, 9, 10, 11, 12, 13, 14, 15, 16, 17, 18, 19, 20, 21, 22] rfl
      have hD9 : va_D (va_A (rW qm cI cJ cZ ad zr) s.heap.size) (rW qm cI cJ cZ ad (va_up (va_up (rs_i zr) 1 fa1_11) 6 cq1_10, rs_n zr, va_up (va_up (va_up (va_up (rs_I zr) 2 fl1_6) 3 fh1_7) 4 al1_8) 5 ah1_9, rs_L zr)) := by rw [hlf.2]; exact hD.sub [23, 24, 25, 26, 27, 0, 1, 2, 3, 4, 5, 6, 7, 8, 9, 10, 11, 12, 13, 14, 15, 16, 17, 18, 19, 20, 21, 22] (by decide) rfl
      exact W.iret (v := r5) hx hb hr (fun t ht hW => ⟨⟨r5, (va_up (va_up (rs_i zr) 1 fa1_11) 6 cq1_10, rs_n zr, va_up (va_up (va_up (va_up (rs_I zr) 2 fl1_6) 3 fh1_7) 4 al1_8) 5 ah1_9, rs_L zr), rfl, ⟨hlf.1, (Or.inl ⟨c2, c3, fl1_6, fh1_7, al1_8, ah1_9, cq1_10, fa1_11, r5, hr5, rfl, rfl⟩)⟩, by rw [ht]; exact hP9, va_K.moved hW.alike hK, hD9⟩, hS.F ht⟩) hS.2.2 dX11_rise_35
    · skip
      refine lv_bipush (v := (-3)) hx hb dX11_rise_23 (by decide) ?_
      subst hQ
      exact W.iret (v := (-3)) hx hb hr (fun t ht hW => ⟨⟨(-3), zr, rfl, ⟨hI, (Or.inr (Or.inl ⟨c2, c3, rfl, rfl⟩))⟩, (by rw [ht]; exact hP0), va_K.moved hW.alike hK, hD0⟩, (by rw [ht]; exact Nat.le_refl _), fun q _ _ => by rw [ht]⟩) (fun q h => absurd h List.not_mem_nil) dX11_rise_25
  · skip
    have c2 := (fa_bool_prop hr1).1.mp c2
    refine lv_bipush (v := (-2)) hx hb dX11_rise_12 (by decide) ?_
    subst hQ
    exact W.iret (v := (-2)) hx hb hr (fun t ht hW => ⟨⟨(-2), zr, rfl, ⟨hI, (Or.inr (Or.inr ⟨c2, rfl, rfl⟩))⟩, (by rw [ht]; exact hP0), va_K.moved hW.alike hK, hD0⟩, (by rw [ht]; exact Nat.le_refl _), fun q _ _ => by rw [ht]⟩) (fun q h => absurd h List.not_mem_nil) dX11_rise_14
def pR_find (zr : RS2) (x : Int32) (y : Int32) (lo : Int32) (hi : Int32) (r : Int32) (u : RS2) : Prop :=
  (((0 ≤ x ∧ x ≤ 7) ∧ (0 ≤ y ∧ y ≤ 5)) ∧ (¬ (0 ≤ lo ∧ lo ≤ 1000)) ∧ r = ((-2)) ∧ u = zr) ∨
  (((0 ≤ x ∧ x ≤ 7) ∧ (0 ≤ y ∧ y ≤ 5)) ∧ (0 ≤ lo ∧ lo ≤ 1000) ∧ (lo ≤ hi ∧ hi ≤ 1000) ∧ ∃ sq : Nat, (sq < 48) ∧ (8 * y + x = nI sq) ∧ ∃ al_9 : Nat → Int32, ∃ ah_10 : Nat → Int32, ∃ cq_11 : Int32, (al_9 = tcL sq lo (rs_I zr 2) ∧ ah_10 = tcH sq hi (rs_I zr 3) ∧ cq_11 = (if (rs_I zr 2) sq < lo ∨ hi < (rs_I zr 3) sq then 1 else (rs_i zr 6))) ∧ ∃ fl1_13 : Nat → Int32, ∃ fh1_14 : Nat → Int32, ∃ al1_15 : Nat → Int32, ∃ ah1_16 : Nat → Int32, ∃ cq1_17 : Int32, ∃ fa1_18 : Int32, ∃ r12 : Int32, (((minL (rs_i zr 1) al_9 al1_15 ∧ maxH (rs_i zr 1) ah_10 ah1_16) ∧ (rngL al1_15 ∧ rngL ah1_16)) ∧ ((r12 = -3 ∧ (∃ j, j < 48 ∧ ah1_16 j < al1_15 j) ∧ fl1_13 = (rs_I zr 2) ∧ fh1_14 = (rs_I zr 3) ∧ fa1_18 = (rs_i zr 1)) ∨ (r12 = nI (fa_cnt (chg (rs_I zr 2) (rs_I zr 3) al1_15 ah1_16) 48) ∧ (∀ j, j < 48 → ¬ ah1_16 j < al1_15 j) ∧ (∀ s n, s < 48 → n < 48 → nbr s n → (al1_15 n).toInt - (rs_i zr 1).toInt ≤ (al1_15 s).toInt ∧ (ah1_16 s).toInt ≤ (ah1_16 n).toInt + (rs_i zr 1).toInt) ∧ fl1_13 = al1_15 ∧ fh1_14 = ah1_16 ∧ fa1_18 = (rs_i zr 1)))) ∧ r = (r12) ∧ u = (va_up (va_up (rs_i zr) 1 fa1_18) 6 cq1_17, rs_n zr, va_up (va_up (va_up (va_up (rs_I zr) 2 fl1_13) 3 fh1_14) 4 al1_15) 5 ah1_16, rs_L zr)) ∨
  (((0 ≤ x ∧ x ≤ 7) ∧ (0 ≤ y ∧ y ≤ 5)) ∧ (0 ≤ lo ∧ lo ≤ 1000) ∧ (¬ (lo ≤ hi ∧ hi ≤ 1000)) ∧ r = ((-2)) ∧ u = zr) ∨
  ((¬ ((0 ≤ x ∧ x ≤ 7) ∧ (0 ≤ y ∧ y ≤ 5))) ∧ r = ((-1)) ∧ u = zr)
set_option maxHeartbeats 4000000 in
theorem lr_find_1 (qm : Nat) (cI cJ cZ : ClassId) (ad : Nat → Nat) (zr : RS2) (x : Int32) (y : Int32) (lo : Int32) (hi : Int32) (sq : Nat) (al_9 : Nat → Int32) (ah_10 : Nat → Int32) (cq_11 : Int32) (fl1_13 : Nat → Int32) (fh1_14 : Nat → Int32) (al1_15 : Nat → Int32) (ah1_16 : Nat → Int32) (cq1_17 : Int32) (fa1_18 : Int32) (r12 : Int32) (c2 : (0 ≤ x ∧ x ≤ 7) ∧ (0 ≤ y ∧ y ≤ 5)) (c4 : 0 ≤ lo ∧ lo ≤ 1000) (c6 : lo ≤ hi ∧ hi ≤ 1000) (hsq : sq < 48) (esq : 8 * y + x = nI sq) (hr8 : al_9 = tcL sq lo (rs_I zr 2) ∧ ah_10 = tcH sq hi (rs_I zr 3) ∧ cq_11 = (if (rs_I zr 2) sq < lo ∨ hi < (rs_I zr 3) sq then 1 else (rs_i zr 6))) (hr12 : ((minL (rs_i zr 1) al_9 al1_15 ∧ maxH (rs_i zr 1) ah_10 ah1_16) ∧ (rngL al1_15 ∧ rngL ah1_16)) ∧ ((r12 = -3 ∧ (∃ j, j < 48 ∧ ah1_16 j < al1_15 j) ∧ fl1_13 = (rs_I zr 2) ∧ fh1_14 = (rs_I zr 3) ∧ fa1_18 = (rs_i zr 1)) ∨ (r12 = nI (fa_cnt (chg (rs_I zr 2) (rs_I zr 3) al1_15 ah1_16) 48) ∧ (∀ j, j < 48 → ¬ ah1_16 j < al1_15 j) ∧ (∀ s n, s < 48 → n < 48 → nbr s n → (al1_15 n).toInt - (rs_i zr 1).toInt ≤ (al1_15 s).toInt ∧ (ah1_16 s).toInt ≤ (ah1_16 n).toInt + (rs_i zr 1).toInt) ∧ fl1_13 = al1_15 ∧ fh1_14 = ah1_16 ∧ fa1_18 = (rs_i zr 1)))) (hI : invR zr) : invR (va_up (va_up (rs_i zr) 1 fa1_18) 6 cq1_17, rs_n zr, va_up (va_up (va_up (va_up (rs_I zr) 2 fl1_13) 3 fh1_14) 4 al1_15) 5 ah1_16, rs_L zr) ∧ rW qm cI cJ cZ ad (va_up (va_up (rs_i zr) 1 fa1_18) 6 cq1_17, rs_n zr, va_up (va_up (va_up (va_up (rs_I zr) 2 fl1_13) 3 fh1_14) 4 al1_15) 5 ah1_16, rs_L zr) = [(qm, .inr (11, [.int (rs_i zr 0), .int fa1_18, .ref (ad 2), .ref (ad 3), .ref (ad 4), .ref (ad 5), .int cq1_17, .ref (ad 7), .ref (ad 8), .ref (ad 9), .ref (ad 10), .int (nI (rs_n zr 0)), .ref (ad 12), .ref (ad 13), .ref (ad 14), .ref (ad 15), .ref (ad 16), .int (nI (rs_n zr 1)), .ref (ad 18), .ref (ad 19), .int (rs_i zr 20), .int (rs_i zr 21), .int (rs_i zr 22), .int (rs_i zr 23), .int (nI (rs_n zr 2)), .ref (ad 25), .ref (ad 26), .ref (ad 27), .ref (ad 28), .ref (ad 29), .ref (ad 30), .ref (ad 31), .ref (ad 32), .ref (ad 33), .int (nI (rs_n zr 3)), .ref (ad 35), .ref (ad 36), .ref (ad 37), .int (rs_i zr 38)])), (ad 2, .inl (cI, 48, .inl fl1_13)), (ad 3, .inl (cI, 48, .inl fh1_14)), (ad 4, .inl (cI, 48, .inl al1_15)), (ad 5, .inl (cI, 48, .inl ah1_16)), rcI cI ad zr 7 4, rcI cI ad zr 8 4, rcI cI ad zr 9 192, rcI cI ad zr 10 48, rcI cI ad zr 12 12, rcI cI ad zr 13 12, rcI cI ad zr 14 12, rcI cI ad zr 15 12, rcI cI ad zr 16 12, rcI cI ad zr 18 8, rcJ cJ ad zr 19 8, rcI cI ad zr 25 40, rcI cI ad zr 26 40, rcI cI ad zr 27 40, rcI cZ ad zr 28 40, rcJ cJ ad zr 29 40, rcJ cJ ad zr 30 40, rcJ cJ ad zr 31 40, rcJ cJ ad zr 32 40, rcJ cJ ad zr 33 40, rcI cI ad zr 35 80, rcI cI ad zr 36 80, rcI cI ad zr 37 80] := by
  obtain ⟨⟨hn0, hn1, hn2, hn3⟩, hfar, hlh, hss, hsold, htk, hpk⟩ := id hI
  exact ⟨(inv_nar hI rfl rfl rfl (nar_ok hr12 (rng_of hlh) hfar hfar).1 (nar_ok hr12 (rng_of hlh) hfar hfar).2), by simp [rW, rcO, rcI, rcJ, rs_i, rs_n, rs_I, rs_L, va_up, upd]⟩
set_option maxHeartbeats 4000000 in
set_option maxRecDepth 100000 in
theorem M_find (l : Launch) (dC : Nat → ClassId) (dI : Nat → Nat → Nat) (cI cJ cZ : ClassId) (sz : Nat) (qm : Nat) (ad : Nat → Nat) (zr : RS2) (x : Int32) (y : Int32) (lo : Int32) (hi : Int32) (hI : invR zr) : Met l yX11_find wsX11_find ({ frames := 4, cells := 0, slots := 0, locals := 130 }) (pw (dC, dI) [(cI, .int), (cJ, .long), (cZ, .boolean)] (rW qm cI cJ cZ ad zr) sz [.ref qm, .int x, .int y, .int lo, .int hi]) (va_Qi (fun r (u : RS2) => invR u ∧ pR_find zr x y lo hi r u) (fun u t => bw (dC, dI) [(cI, .int), (cJ, .long), (cZ, .boolean)] (va_A (rW qm cI cJ cZ ad zr) sz) (rW qm cI cJ cZ ad u) t) (va_A (rW qm cI cJ cZ ad zr) sz)) 0 0 (va_A (rW qm cI cJ cZ ad zr) sz) := by
  refine pw_met (cc := cX11_find) (maxL := 5) (ret := (some .int)) (by decide) rfl (Nat.le_of_ble_eq_true rfl) ?_
  intro p e s m below meth c0 hx hb hr hml hown hlocks hnm hts hP0 hK hD0 hN hsz hA hS ls hl
  subst hsz
  have hP : va_P (dC, dI) vwCl [rcO qm ad zr, rcI cI ad zr 2 48, rcI cI ad zr 3 48, rcI cI ad zr 4 48, rcI cI ad zr 5 48, rcI cI ad zr 7 4, rcI cI ad zr 8 4, rcI cI ad zr 9 192, rcI cI ad zr 10 48, rcI cI ad zr 12 12, rcI cI ad zr 13 12, rcI cI ad zr 14 12, rcI cI ad zr 15 12, rcI cI ad zr 16 12, rcI cI ad zr 18 8, rcJ cJ ad zr 19 8, rcI cI ad zr 25 40, rcI cI ad zr 26 40, rcI cI ad zr 27 40, rcI cZ ad zr 28 40, rcJ cJ ad zr 29 40, rcJ cJ ad zr 30 40, rcJ cJ ad zr 31 40, rcJ cJ ad zr 32 40, rcJ cJ ad zr 33 40, rcI cI ad zr 35 80, rcI cI ad zr 36 80, rcI cI ad zr 37 80] s.heap := hP0
  have hD : va_D (va_A (rW qm cI cJ cZ ad zr) s.heap.size) [rcO qm ad zr, rcI cI ad zr 2 48, rcI cI ad zr 3 48, rcI cI ad zr 4 48, rcI cI ad zr 5 48, rcI cI ad zr 7 4, rcI cI ad zr 8 4, rcI cI ad zr 9 192, rcI cI ad zr 10 48, rcI cI ad zr 12 12, rcI cI ad zr 13 12, rcI cI ad zr 14 12, rcI cI ad zr 15 12, rcI cI ad zr 16 12, rcI cI ad zr 18 8, rcJ cJ ad zr 19 8, rcI cI ad zr 25 40, rcI cI ad zr 26 40, rcI cI ad zr 27 40, rcI cZ ad zr 28 40, rcJ cJ ad zr 29 40, rcJ cJ ad zr 30 40, rcJ cJ ad zr 31 40, rcJ cJ ad zr 32 40, rcJ cJ ad zr 33 40, rcI cI ad zr 35 80, rcI cI ad zr 36 80, rcI cI ad zr 37 80] := hD0
  obtain ⟨⟨hn0, hn1, hn2, hn3⟩, hfar, hlh, hss, hsold, htk, hpk⟩ := id hI
  have hl : lv_has ls 5 [(0, .ref qm), (1, .int x), (2, .int y), (3, .int lo), (4, .int hi)] := hl
  have hiX11 : ∀ w ∈ wsX110, w ∈ wsX11_find := fun _ h => List.mem_cons_of_mem _ (List.mem_append_right _ (h))
  generalize hQ : MQ _ _ _ _ _ _ _ = Q
  refine lv_iload_n hx hb dX11_find_0 rfl (lv_at hl 1 rfl) ?_
  refine lv_iload_n hx hb dX11_find_1 rfl (lv_at hl 2 rfl) ?_
  refine vp_callSi (va_Run.run (va_runS (As := [.int x, .int y]) (rest := []) ⟨hx, hb, hml, hown, hts⟩ (c_X11_isSquare l x y ) (va_cwS 2 hts gX11_find_X11_isSquare rfl rfl rfl (by decide +kernel) ⟨Nat.le_of_ble_eq_true rfl, Nat.le_of_ble_eq_true rfl⟩) (p0_preS hN) rfl rfl hl.1 rfl (lv_room (Nat.le_of_ble_eq_true rfl)) dX11_find_2 ⟨Nat.le_of_ble_eq_true rfl, Nat.le_of_ble_eq_true rfl⟩)) (fun r1 hr1 => ?_)
  have hr1 : r1 = if (0 ≤ x ∧ x ≤ 7) ∧ (0 ≤ y ∧ y ≤ 5) then 1 else 0 := hr1
  refine lv_if_ne (tgt := 10) hx hb dX11_find_5 (by decide) (fun c2 => ?_) (fun c2 => ?_)
  · skip
    have c2 := (fa_bool_prop hr1).2.mp c2
    refine lv_iload_n hx hb dX11_find_10 rfl (lv_at hl 3 rfl) ?_
    refine lv_i2l (v := lo.toInt64) hx hb dX11_find_11 rfl ?_
    refine lv_lconst (v := 0) hx hb dX11_find_12 (by decide) ?_
    refine lv_ldc2 (v := 1000) hx hb hown (hts (.constantLong RX11 133 (1000)) (List.mem_of_getElem? (i := 1) rfl)) dX11_find_13 ?_
    refine vp_callSi (va_Run.run (va_runS (As := [.long lo.toInt64, .long 0, .long 1000]) (rest := []) ⟨hx, hb, hml, hown, hts⟩ (c_X11_in l lo.toInt64 0 1000 ) (va_cwS 3 hts gX11_find_X11_in rfl rfl rfl (by decide +kernel) ⟨Nat.le_of_ble_eq_true rfl, Nat.le_of_ble_eq_true rfl⟩) (p0_preS hN) rfl rfl hl.1 rfl (lv_room (Nat.le_of_ble_eq_true rfl)) dX11_find_16 ⟨Nat.le_of_ble_eq_true rfl, Nat.le_of_ble_eq_true rfl⟩)) (fun r3 hr3 => ?_)
    have hr3 : r3 = if 0 ≤ lo.toInt64 ∧ lo.toInt64 ≤ 1000 then 1 else 0 := hr3
    have hr3 := hr3.trans (in_w _ 0 1000 (by decide) (by decide))
    refine lv_if_eq (tgt := 36) hx hb dX11_find_19 (by decide) (fun c4 => ?_) (fun c4 => ?_)
    · skip
      have c4 := (fa_bool_prop hr3).1.mp c4
      refine lv_bipush (v := (-2)) hx hb dX11_find_36 (by decide) ?_
      subst hQ
      exact W.iret (v := (-2)) hx hb hr (fun t ht hW => ⟨⟨(-2), zr, rfl, ⟨hI, (Or.inl ⟨c2, c4, rfl, rfl⟩)⟩, (by rw [ht]; exact hP0), va_K.moved hW.alike hK, hD0⟩, (by rw [ht]; exact Nat.le_refl _), fun q _ _ => by rw [ht]⟩) (fun q h => absurd h List.not_mem_nil) dX11_find_38
    · skip
      have c4 := (fa_bool_prop hr3).2.mp c4
      refine lv_iload hx hb dX11_find_22 (lv_at hl 4 rfl) ?_
      refine lv_i2l (v := hi.toInt64) hx hb dX11_find_24 rfl ?_
      refine lv_iload_n hx hb dX11_find_25 rfl (lv_at hl 3 rfl) ?_
      refine lv_i2l (v := lo.toInt64) hx hb dX11_find_26 rfl ?_
      refine lv_ldc2 (v := 1000) hx hb hown (hts (.constantLong RX11 133 (1000)) (List.mem_of_getElem? (i := 1) rfl)) dX11_find_27 ?_
      refine vp_callSi (va_Run.run (va_runS (As := [.long hi.toInt64, .long lo.toInt64, .long 1000]) (rest := []) ⟨hx, hb, hml, hown, hts⟩ (c_X11_in l hi.toInt64 lo.toInt64 1000 ) (va_cwS 3 hts gX11_find_X11_in rfl rfl rfl (by decide +kernel) ⟨Nat.le_of_ble_eq_true rfl, Nat.le_of_ble_eq_true rfl⟩) (p0_preS hN) rfl rfl hl.1 rfl (lv_room (Nat.le_of_ble_eq_true rfl)) dX11_find_30 ⟨Nat.le_of_ble_eq_true rfl, Nat.le_of_ble_eq_true rfl⟩)) (fun r5 hr5 => ?_)
      have hr5 : r5 = if lo.toInt64 ≤ hi.toInt64 ∧ hi.toInt64 ≤ 1000 then 1 else 0 := hr5
      have hr5 := hr5.trans (in_w _ lo 1000 rfl (by decide))
      refine lv_if_ne (tgt := 39) hx hb dX11_find_33 (by decide) (fun c6 => ?_) (fun c6 => ?_)
      · skip
        have c6 := (fa_bool_prop hr5).2.mp c6
        refine lv_aload_n hx hb dX11_find_39 rfl (lv_at hl 0 rfl) ?_
        have hPc := hP.sub (ws' := [rcO qm ad zr, rcI cI ad zr 2 48, rcI cI ad zr 3 48, rcI cI ad zr 4 48, rcI cI ad zr 5 48]) [0, 1, 2, 3, 4] rfl
        have hDc := hD.sub (ws' := [rcO qm ad zr, rcI cI ad zr 2 48, rcI cI ad zr 3 48, rcI cI ad zr 4 48, rcI cI ad zr 5 48]) [0, 1, 2, 3, 4] (by decide) rfl
        have hKc := hK.sub (tys' := [(cI, .int)]) [0] rfl
        have hFc := va_free (wc := [rcO qm ad zr, rcI cI ad zr 2 48, rcI cI ad zr 3 48, rcI cI ad zr 4 48, rcI cI ad zr 5 48]) hD hS hA [0, 1, 2, 3, 4] rfl
        refine va_callv (va_runV (As := []) (rest := []) ⟨hx, hb, hml, hown, hts⟩ (c_X11_layNew l dC dI cI _ qm (.int (rs_i zr 0)) (.int (rs_i zr 1)) (.int (rs_i zr 6)) (.ref (ad 7)) (.ref (ad 8)) (.ref (ad 9)) (.ref (ad 10)) (.int (nI (rs_n zr 0))) (.ref (ad 12)) (.ref (ad 13)) (.ref (ad 14)) (.ref (ad 15)) (.ref (ad 16)) (.int (nI (rs_n zr 1))) (.ref (ad 18)) (.ref (ad 19)) (.int (rs_i zr 20)) (.int (rs_i zr 21)) (.int (rs_i zr 22)) (.int (rs_i zr 23)) (.int (nI (rs_n zr 2))) (.ref (ad 25)) (.ref (ad 26)) (.ref (ad 27)) (.ref (ad 28)) (.ref (ad 29)) (.ref (ad 30)) (.ref (ad 31)) (.ref (ad 32)) (.ref (ad 33)) (.int (nI (rs_n zr 3))) (.ref (ad 35)) (.ref (ad 36)) (.ref (ad 37)) (.int (rs_i zr 38)) (ad 4) (ad 5) (ad 2) (ad 3) (rs_I zr 2) (rs_I zr 3) (rs_I zr 4) (rs_I zr 5) ) (cwV 0 hts gX11_find_X11_layNew rfl rfl rfl (by decide +kernel) ⟨Nat.le_of_ble_eq_true rfl, Nat.le_of_ble_eq_true rfl⟩) (pw_preV (va_recv hKc hPc (ci := 11) (q0 := 0) rfl rfl) hPc hKc hDc hN) rfl rfl hl.1 rfl (lv_room (Nat.le_of_ble_eq_true rfl)) dX11_find_40 ⟨Nat.le_of_ble_eq_true rfl, Nat.le_of_ble_eq_true rfl⟩) hS (fun q _ h => hFc q h) hFc (fun u t H1 locs ht hvm hw hB hz1 hk1 hS => ?_)
        obtain ⟨hP1, hK1, hD1⟩ := hB
        rw [ht] at hP1
        obtain ⟨hP, hD⟩ := va_join (wr := [rcI cI ad zr 7 4, rcI cI ad zr 8 4, rcI cI ad zr 9 192, rcI cI ad zr 10 48, rcI cI ad zr 12 12, rcI cI ad zr 13 12, rcI cI ad zr 14 12, rcI cI ad zr 15 12, rcI cI ad zr 16 12, rcI cI ad zr 18 8, rcJ cJ ad zr 19 8, rcI cI ad zr 25 40, rcI cI ad zr 26 40, rcI cI ad zr 27 40, rcI cZ ad zr 28 40, rcJ cJ ad zr 29 40, rcJ cJ ad zr 30 40, rcJ cJ ad zr 31 40, rcJ cJ ad zr 32 40, rcJ cJ ad zr 33 40, rcI cI ad zr 35 80, rcI cI ad zr 36 80, rcI cI ad zr 37 80]) (w1 := [(qm, .inr (11, [.int (rs_i zr 0), .int (rs_i zr 1), .ref (ad 2), .ref (ad 3), .ref (ad 4), .ref (ad 5), .int (rs_i zr 6), .ref (ad 7), .ref (ad 8), .ref (ad 9), .ref (ad 10), .int (nI (rs_n zr 0)), .ref (ad 12), .ref (ad 13), .ref (ad 14), .ref (ad 15), .ref (ad 16), .int (nI (rs_n zr 1)), .ref (ad 18), .ref (ad 19), .int (rs_i zr 20), .int (rs_i zr 21), .int (rs_i zr 22), .int (rs_i zr 23), .int (nI (rs_n zr 2)), .ref (ad 25), .ref (ad 26), .ref (ad 27), .ref (ad 28), .ref (ad 29), .ref (ad 30), .ref (ad 31), .ref (ad 32), .ref (ad 33), .int (nI (rs_n zr 3)), .ref (ad 35), .ref (ad 36), .ref (ad 37), .int (rs_i zr 38)])), (ad 2, .inl (cI, 48, .inl (rs_I zr 2))), (ad 3, .inl (cI, 48, .inl (rs_I zr 3))), (ad 4, .inl (cI, 48, .inl (rs_I zr 2))), (ad 5, .inl (cI, 48, .inl (rs_I zr 3)))]) hP hD [0, 1, 2, 3, 4] [5, 6, 7, 8, 9, 10, 11, 12, 13, 14, 15, 16, 17, 18, 19, 20, 21, 22, 23, 24, 25, 26, 27] rfl rfl (by decide) (by decide) hk1 hFc hP1 hD1
        generalize H1 = H at hP hS ⊢
        have hP : va_P (dC, dI) vwCl [rcI cI ad zr 7 4, rcI cI ad zr 8 4, rcI cI ad zr 9 192, rcI cI ad zr 10 48, rcI cI ad zr 12 12, rcI cI ad zr 13 12, rcI cI ad zr 14 12, rcI cI ad zr 15 12, rcI cI ad zr 16 12, rcI cI ad zr 18 8, rcJ cJ ad zr 19 8, rcI cI ad zr 25 40, rcI cI ad zr 26 40, rcI cI ad zr 27 40, rcI cZ ad zr 28 40, rcJ cJ ad zr 29 40, rcJ cJ ad zr 30 40, rcJ cJ ad zr 31 40, rcJ cJ ad zr 32 40, rcJ cJ ad zr 33 40, rcI cI ad zr 35 80, rcI cI ad zr 36 80, rcI cI ad zr 37 80, (qm, .inr (11, [.int (rs_i zr 0), .int (rs_i zr 1), .ref (ad 2), .ref (ad 3), .ref (ad 4), .ref (ad 5), .int (rs_i zr 6), .ref (ad 7), .ref (ad 8), .ref (ad 9), .ref (ad 10), .int (nI (rs_n zr 0)), .ref (ad 12), .ref (ad 13), .ref (ad 14), .ref (ad 15), .ref (ad 16), .int (nI (rs_n zr 1)), .ref (ad 18), .ref (ad 19), .int (rs_i zr 20), .int (rs_i zr 21), .int (rs_i zr 22), .int (rs_i zr 23), .int (nI (rs_n zr 2)), .ref (ad 25), .ref (ad 26), .ref (ad 27), .ref (ad 28), .ref (ad 29), .ref (ad 30), .ref (ad 31), .ref (ad 32), .ref (ad 33), .int (nI (rs_n zr 3)), .ref (ad 35), .ref (ad 36), .ref (ad 37), .int (rs_i zr 38)])), (ad 2, .inl (cI, 48, .inl (rs_I zr 2))), (ad 3, .inl (cI, 48, .inl (rs_I zr 3))), (ad 4, .inl (cI, 48, .inl (rs_I zr 2))), (ad 5, .inl (cI, 48, .inl (rs_I zr 3)))] H := hP
        have hD : va_D _ [rcI cI ad zr 7 4, rcI cI ad zr 8 4, rcI cI ad zr 9 192, rcI cI ad zr 10 48, rcI cI ad zr 12 12, rcI cI ad zr 13 12, rcI cI ad zr 14 12, rcI cI ad zr 15 12, rcI cI ad zr 16 12, rcI cI ad zr 18 8, rcJ cJ ad zr 19 8, rcI cI ad zr 25 40, rcI cI ad zr 26 40, rcI cI ad zr 27 40, rcI cZ ad zr 28 40, rcJ cJ ad zr 29 40, rcJ cJ ad zr 30 40, rcJ cJ ad zr 31 40, rcJ cJ ad zr 32 40, rcJ cJ ad zr 33 40, rcI cI ad zr 35 80, rcI cI ad zr 36 80, rcI cI ad zr 37 80, (qm, .inr (11, [.int (rs_i zr 0), .int (rs_i zr 1), .ref (ad 2), .ref (ad 3), .ref (ad 4), .ref (ad 5), .int (rs_i zr 6), .ref (ad 7), .ref (ad 8), .ref (ad 9), .ref (ad 10), .int (nI (rs_n zr 0)), .ref (ad 12), .ref (ad 13), .ref (ad 14), .ref (ad 15), .ref (ad 16), .int (nI (rs_n zr 1)), .ref (ad 18), .ref (ad 19), .int (rs_i zr 20), .int (rs_i zr 21), .int (rs_i zr 22), .int (rs_i zr 23), .int (nI (rs_n zr 2)), .ref (ad 25), .ref (ad 26), .ref (ad 27), .ref (ad 28), .ref (ad 29), .ref (ad 30), .ref (ad 31), .ref (ad 32), .ref (ad 33), .int (nI (rs_n zr 3)), .ref (ad 35), .ref (ad 36), .ref (ad 37), .int (rs_i zr 38)])), (ad 2, .inl (cI, 48, .inl (rs_I zr 2))), (ad 3, .inl (cI, 48, .inl (rs_I zr 3))), (ad 4, .inl (cI, 48, .inl (rs_I zr 2))), (ad 5, .inl (cI, 48, .inl (rs_I zr 3)))] := hD
        obtain ⟨sq, hsq, esq⟩ := sqN c2
        refine lv_aload_n hx hb dX11_find_43 rfl (lv_at hl 0 rfl) ?_
        refine lv_bipush (v := 8) hx hb dX11_find_44 (by decide) ?_
        refine lv_iload_n hx hb dX11_find_46 rfl (lv_at hl 2 rfl) ?_
        refine lv_imul hx hb dX11_find_47 ?_
        refine lv_iload_n hx hb dX11_find_48 rfl (lv_at hl 1 rfl) ?_
        refine lv_iadd hx hb dX11_find_49 ?_
        refine lv_topi (fun vq evq => ?_)
        have evq : vq = nI sq := by rw [evq]; exact esq
        subst evq
        refine lv_iload_n hx hb dX11_find_50 rfl (lv_at hl 3 rfl) ?_
        refine lv_iload hx hb dX11_find_51 (lv_at hl 4 rfl) ?_
        have hPc := hP.sub (ws' := [(qm, .inr (11, [.int (rs_i zr 0), .int (rs_i zr 1), .ref (ad 2), .ref (ad 3), .ref (ad 4), .ref (ad 5), .int (rs_i zr 6), .ref (ad 7), .ref (ad 8), .ref (ad 9), .ref (ad 10), .int (nI (rs_n zr 0)), .ref (ad 12), .ref (ad 13), .ref (ad 14), .ref (ad 15), .ref (ad 16), .int (nI (rs_n zr 1)), .ref (ad 18), .ref (ad 19), .int (rs_i zr 20), .int (rs_i zr 21), .int (rs_i zr 22), .int (rs_i zr 23), .int (nI (rs_n zr 2)), .ref (ad 25), .ref (ad 26), .ref (ad 27), .ref (ad 28), .ref (ad 29), .ref (ad 30), .ref (ad 31), .ref (ad 32), .ref (ad 33), .int (nI (rs_n zr 3)), .ref (ad 35), .ref (ad 36), .ref (ad 37), .int (rs_i zr 38)])), (ad 4, .inl (cI, 48, .inl (rs_I zr 2))), (ad 5, .inl (cI, 48, .inl (rs_I zr 3)))]) [23, 26, 27] rfl
        have hDc := hD.sub (ws' := [(qm, .inr (11, [.int (rs_i zr 0), .int (rs_i zr 1), .ref (ad 2), .ref (ad 3), .ref (ad 4), .ref (ad 5), .int (rs_i zr 6), .ref (ad 7), .ref (ad 8), .ref (ad 9), .ref (ad 10), .int (nI (rs_n zr 0)), .ref (ad 12), .ref (ad 13), .ref (ad 14), .ref (ad 15), .ref (ad 16), .int (nI (rs_n zr 1)), .ref (ad 18), .ref (ad 19), .int (rs_i zr 20), .int (rs_i zr 21), .int (rs_i zr 22), .int (rs_i zr 23), .int (nI (rs_n zr 2)), .ref (ad 25), .ref (ad 26), .ref (ad 27), .ref (ad 28), .ref (ad 29), .ref (ad 30), .ref (ad 31), .ref (ad 32), .ref (ad 33), .int (nI (rs_n zr 3)), .ref (ad 35), .ref (ad 36), .ref (ad 37), .int (rs_i zr 38)])), (ad 4, .inl (cI, 48, .inl (rs_I zr 2))), (ad 5, .inl (cI, 48, .inl (rs_I zr 3)))]) [23, 26, 27] (by decide) rfl
        have hKc := hK.sub (tys' := [(cI, .int)]) [0] rfl
        have hFc := va_free (wc := [(qm, .inr (11, [.int (rs_i zr 0), .int (rs_i zr 1), .ref (ad 2), .ref (ad 3), .ref (ad 4), .ref (ad 5), .int (rs_i zr 6), .ref (ad 7), .ref (ad 8), .ref (ad 9), .ref (ad 10), .int (nI (rs_n zr 0)), .ref (ad 12), .ref (ad 13), .ref (ad 14), .ref (ad 15), .ref (ad 16), .int (nI (rs_n zr 1)), .ref (ad 18), .ref (ad 19), .int (rs_i zr 20), .int (rs_i zr 21), .int (rs_i zr 22), .int (rs_i zr 23), .int (nI (rs_n zr 2)), .ref (ad 25), .ref (ad 26), .ref (ad 27), .ref (ad 28), .ref (ad 29), .ref (ad 30), .ref (ad 31), .ref (ad 32), .ref (ad 33), .int (nI (rs_n zr 3)), .ref (ad 35), .ref (ad 36), .ref (ad 37), .int (rs_i zr 38)])), (ad 4, .inl (cI, 48, .inl (rs_I zr 2))), (ad 5, .inl (cI, 48, .inl (rs_I zr 3)))]) hD hS hA [23, 26, 27] rfl
        refine va_callv (va_runV (As := [.int (nI sq), .int lo, .int hi]) (rest := []) ⟨hx, hb, hml, hown, hts⟩ (r_meet l dC dI cI _ qm (.int (rs_i zr 0)) (.int (rs_i zr 1)) (.ref (ad 2)) (.ref (ad 3)) (.ref (ad 7)) (.ref (ad 8)) (.ref (ad 9)) (.ref (ad 10)) (.int (nI (rs_n zr 0))) (.ref (ad 12)) (.ref (ad 13)) (.ref (ad 14)) (.ref (ad 15)) (.ref (ad 16)) (.int (nI (rs_n zr 1))) (.ref (ad 18)) (.ref (ad 19)) (.int (rs_i zr 20)) (.int (rs_i zr 21)) (.int (rs_i zr 22)) (.int (rs_i zr 23)) (.int (nI (rs_n zr 2))) (.ref (ad 25)) (.ref (ad 26)) (.ref (ad 27)) (.ref (ad 28)) (.ref (ad 29)) (.ref (ad 30)) (.ref (ad 31)) (.ref (ad 32)) (.ref (ad 33)) (.int (nI (rs_n zr 3))) (.ref (ad 35)) (.ref (ad 36)) (.ref (ad 37)) (.int (rs_i zr 38)) (ad 4) (ad 5) sq lo hi (rs_i zr 6) (rs_I zr 2) (rs_I zr 3) hsq) (cwV 3 hts gX11_find_X11_meet rfl rfl rfl (by decide +kernel) ⟨Nat.le_of_ble_eq_true rfl, Nat.le_of_ble_eq_true rfl⟩) (pw_preV (va_recv hKc hPc (ci := 11) (q0 := 0) rfl rfl) hPc hKc hDc hN) rfl rfl hl.1 rfl (lv_room (Nat.le_of_ble_eq_true rfl)) dX11_find_53 ⟨Nat.le_of_ble_eq_true rfl, Nat.le_of_ble_eq_true rfl⟩) hS (fun q _ h => hFc q h) hFc (fun u t H1 locs ht hvm hw hB hz1 hk1 hS => ?_)
        obtain ⟨al_9, ah_10, cq_11⟩ := u
        have hr8 : al_9 = tcL sq lo (rs_I zr 2) ∧ ah_10 = tcH sq hi (rs_I zr 3) ∧ cq_11 = (if (rs_I zr 2) sq < lo ∨ hi < (rs_I zr 3) sq then 1 else (rs_i zr 6)) := hw
        obtain ⟨hP1, hK1, hD1⟩ := hB
        rw [ht] at hP1
        obtain ⟨hP, hD⟩ := va_join (wr := [rcI cI ad zr 7 4, rcI cI ad zr 8 4, rcI cI ad zr 9 192, rcI cI ad zr 10 48, rcI cI ad zr 12 12, rcI cI ad zr 13 12, rcI cI ad zr 14 12, rcI cI ad zr 15 12, rcI cI ad zr 16 12, rcI cI ad zr 18 8, rcJ cJ ad zr 19 8, rcI cI ad zr 25 40, rcI cI ad zr 26 40, rcI cI ad zr 27 40, rcI cZ ad zr 28 40, rcJ cJ ad zr 29 40, rcJ cJ ad zr 30 40, rcJ cJ ad zr 31 40, rcJ cJ ad zr 32 40, rcJ cJ ad zr 33 40, rcI cI ad zr 35 80, rcI cI ad zr 36 80, rcI cI ad zr 37 80, (ad 2, .inl (cI, 48, .inl (rs_I zr 2))), (ad 3, .inl (cI, 48, .inl (rs_I zr 3)))]) (w1 := [(qm, .inr (11, [.int (rs_i zr 0), .int (rs_i zr 1), .ref (ad 2), .ref (ad 3), .ref (ad 4), .ref (ad 5), .int cq_11, .ref (ad 7), .ref (ad 8), .ref (ad 9), .ref (ad 10), .int (nI (rs_n zr 0)), .ref (ad 12), .ref (ad 13), .ref (ad 14), .ref (ad 15), .ref (ad 16), .int (nI (rs_n zr 1)), .ref (ad 18), .ref (ad 19), .int (rs_i zr 20), .int (rs_i zr 21), .int (rs_i zr 22), .int (rs_i zr 23), .int (nI (rs_n zr 2)), .ref (ad 25), .ref (ad 26), .ref (ad 27), .ref (ad 28), .ref (ad 29), .ref (ad 30), .ref (ad 31), .ref (ad 32), .ref (ad 33), .int (nI (rs_n zr 3)), .ref (ad 35), .ref (ad 36), .ref (ad 37), .int (rs_i zr 38)])), (ad 4, .inl (cI, 48, .inl al_9)), (ad 5, .inl (cI, 48, .inl ah_10))]) hP hD [23, 26, 27] [0, 1, 2, 3, 4, 5, 6, 7, 8, 9, 10, 11, 12, 13, 14, 15, 16, 17, 18, 19, 20, 21, 22, 24, 25] rfl rfl (by decide) (by decide) hk1 hFc hP1 hD1
        generalize H1 = H at hP hS ⊢
        have hP : va_P (dC, dI) vwCl [rcI cI ad zr 7 4, rcI cI ad zr 8 4, rcI cI ad zr 9 192, rcI cI ad zr 10 48, rcI cI ad zr 12 12, rcI cI ad zr 13 12, rcI cI ad zr 14 12, rcI cI ad zr 15 12, rcI cI ad zr 16 12, rcI cI ad zr 18 8, rcJ cJ ad zr 19 8, rcI cI ad zr 25 40, rcI cI ad zr 26 40, rcI cI ad zr 27 40, rcI cZ ad zr 28 40, rcJ cJ ad zr 29 40, rcJ cJ ad zr 30 40, rcJ cJ ad zr 31 40, rcJ cJ ad zr 32 40, rcJ cJ ad zr 33 40, rcI cI ad zr 35 80, rcI cI ad zr 36 80, rcI cI ad zr 37 80, (ad 2, .inl (cI, 48, .inl (rs_I zr 2))), (ad 3, .inl (cI, 48, .inl (rs_I zr 3))), (qm, .inr (11, [.int (rs_i zr 0), .int (rs_i zr 1), .ref (ad 2), .ref (ad 3), .ref (ad 4), .ref (ad 5), .int cq_11, .ref (ad 7), .ref (ad 8), .ref (ad 9), .ref (ad 10), .int (nI (rs_n zr 0)), .ref (ad 12), .ref (ad 13), .ref (ad 14), .ref (ad 15), .ref (ad 16), .int (nI (rs_n zr 1)), .ref (ad 18), .ref (ad 19), .int (rs_i zr 20), .int (rs_i zr 21), .int (rs_i zr 22), .int (rs_i zr 23), .int (nI (rs_n zr 2)), .ref (ad 25), .ref (ad 26), .ref (ad 27), .ref (ad 28), .ref (ad 29), .ref (ad 30), .ref (ad 31), .ref (ad 32), .ref (ad 33), .int (nI (rs_n zr 3)), .ref (ad 35), .ref (ad 36), .ref (ad 37), .int (rs_i zr 38)])), (ad 4, .inl (cI, 48, .inl al_9)), (ad 5, .inl (cI, 48, .inl ah_10))] H := hP
        have hD : va_D _ [rcI cI ad zr 7 4, rcI cI ad zr 8 4, rcI cI ad zr 9 192, rcI cI ad zr 10 48, rcI cI ad zr 12 12, rcI cI ad zr 13 12, rcI cI ad zr 14 12, rcI cI ad zr 15 12, rcI cI ad zr 16 12, rcI cI ad zr 18 8, rcJ cJ ad zr 19 8, rcI cI ad zr 25 40, rcI cI ad zr 26 40, rcI cI ad zr 27 40, rcI cZ ad zr 28 40, rcJ cJ ad zr 29 40, rcJ cJ ad zr 30 40, rcJ cJ ad zr 31 40, rcJ cJ ad zr 32 40, rcJ cJ ad zr 33 40, rcI cI ad zr 35 80, rcI cI ad zr 36 80, rcI cI ad zr 37 80, (ad 2, .inl (cI, 48, .inl (rs_I zr 2))), (ad 3, .inl (cI, 48, .inl (rs_I zr 3))), (qm, .inr (11, [.int (rs_i zr 0), .int (rs_i zr 1), .ref (ad 2), .ref (ad 3), .ref (ad 4), .ref (ad 5), .int cq_11, .ref (ad 7), .ref (ad 8), .ref (ad 9), .ref (ad 10), .int (nI (rs_n zr 0)), .ref (ad 12), .ref (ad 13), .ref (ad 14), .ref (ad 15), .ref (ad 16), .int (nI (rs_n zr 1)), .ref (ad 18), .ref (ad 19), .int (rs_i zr 20), .int (rs_i zr 21), .int (rs_i zr 22), .int (rs_i zr 23), .int (nI (rs_n zr 2)), .ref (ad 25), .ref (ad 26), .ref (ad 27), .ref (ad 28), .ref (ad 29), .ref (ad 30), .ref (ad 31), .ref (ad 32), .ref (ad 33), .int (nI (rs_n zr 3)), .ref (ad 35), .ref (ad 36), .ref (ad 37), .int (rs_i zr 38)])), (ad 4, .inl (cI, 48, .inl al_9)), (ad 5, .inl (cI, 48, .inl ah_10))] := hD
        refine lv_aload_n hx hb dX11_find_56 rfl (lv_at hl 0 rfl) ?_
        refine lv_aload_n hx hb dX11_find_57 rfl (lv_at hl 0 rfl) ?_
        refine va_get (D := (dC, dI)) (ci := 11) (v := .int (rs_i zr 1)) (C := RX11) (T := TX11) (N := 39) hx hb hts hiX11 hown hK hP 25 rfl rfl 1 (by decide) (hts (.fieldLink RX11 93 "TributePitchesModel" "far" "I") (List.mem_of_getElem? (i := 2) rfl)) (fun _ h9 => h9) rfl dX11_find_58 ?_
        have hPc := hP.sub (ws' := [(qm, .inr (11, [.int (rs_i zr 0), .int (rs_i zr 1), .ref (ad 2), .ref (ad 3), .ref (ad 4), .ref (ad 5), .int cq_11, .ref (ad 7), .ref (ad 8), .ref (ad 9), .ref (ad 10), .int (nI (rs_n zr 0)), .ref (ad 12), .ref (ad 13), .ref (ad 14), .ref (ad 15), .ref (ad 16), .int (nI (rs_n zr 1)), .ref (ad 18), .ref (ad 19), .int (rs_i zr 20), .int (rs_i zr 21), .int (rs_i zr 22), .int (rs_i zr 23), .int (nI (rs_n zr 2)), .ref (ad 25), .ref (ad 26), .ref (ad 27), .ref (ad 28), .ref (ad 29), .ref (ad 30), .ref (ad 31), .ref (ad 32), .ref (ad 33), .int (nI (rs_n zr 3)), .ref (ad 35), .ref (ad 36), .ref (ad 37), .int (rs_i zr 38)])), (ad 2, .inl (cI, 48, .inl (rs_I zr 2))), (ad 3, .inl (cI, 48, .inl (rs_I zr 3))), (ad 4, .inl (cI, 48, .inl al_9)), (ad 5, .inl (cI, 48, .inl ah_10))]) [25, 23, 24, 26, 27] rfl
        have hDc := hD.sub (ws' := [(qm, .inr (11, [.int (rs_i zr 0), .int (rs_i zr 1), .ref (ad 2), .ref (ad 3), .ref (ad 4), .ref (ad 5), .int cq_11, .ref (ad 7), .ref (ad 8), .ref (ad 9), .ref (ad 10), .int (nI (rs_n zr 0)), .ref (ad 12), .ref (ad 13), .ref (ad 14), .ref (ad 15), .ref (ad 16), .int (nI (rs_n zr 1)), .ref (ad 18), .ref (ad 19), .int (rs_i zr 20), .int (rs_i zr 21), .int (rs_i zr 22), .int (rs_i zr 23), .int (nI (rs_n zr 2)), .ref (ad 25), .ref (ad 26), .ref (ad 27), .ref (ad 28), .ref (ad 29), .ref (ad 30), .ref (ad 31), .ref (ad 32), .ref (ad 33), .int (nI (rs_n zr 3)), .ref (ad 35), .ref (ad 36), .ref (ad 37), .int (rs_i zr 38)])), (ad 2, .inl (cI, 48, .inl (rs_I zr 2))), (ad 3, .inl (cI, 48, .inl (rs_I zr 3))), (ad 4, .inl (cI, 48, .inl al_9)), (ad 5, .inl (cI, 48, .inl ah_10))]) [25, 23, 24, 26, 27] (by decide) rfl
        have hKc := hK.sub (tys' := [(cI, .int)]) [0] rfl
        have hFc := va_free (wc := [(qm, .inr (11, [.int (rs_i zr 0), .int (rs_i zr 1), .ref (ad 2), .ref (ad 3), .ref (ad 4), .ref (ad 5), .int cq_11, .ref (ad 7), .ref (ad 8), .ref (ad 9), .ref (ad 10), .int (nI (rs_n zr 0)), .ref (ad 12), .ref (ad 13), .ref (ad 14), .ref (ad 15), .ref (ad 16), .int (nI (rs_n zr 1)), .ref (ad 18), .ref (ad 19), .int (rs_i zr 20), .int (rs_i zr 21), .int (rs_i zr 22), .int (rs_i zr 23), .int (nI (rs_n zr 2)), .ref (ad 25), .ref (ad 26), .ref (ad 27), .ref (ad 28), .ref (ad 29), .ref (ad 30), .ref (ad 31), .ref (ad 32), .ref (ad 33), .int (nI (rs_n zr 3)), .ref (ad 35), .ref (ad 36), .ref (ad 37), .int (rs_i zr 38)])), (ad 2, .inl (cI, 48, .inl (rs_I zr 2))), (ad 3, .inl (cI, 48, .inl (rs_I zr 3))), (ad 4, .inl (cI, 48, .inl al_9)), (ad 5, .inl (cI, 48, .inl ah_10))]) hD hS hA [25, 23, 24, 26, 27] rfl
        refine va_calli (va_runV (As := [.int (rs_i zr 1)]) (rest := []) ⟨hx, hb, hml, hown, hts⟩ (r_narrowed l dC dI cI _ qm (.int (rs_i zr 0)) (.ref (ad 7)) (.ref (ad 8)) (.ref (ad 9)) (.ref (ad 10)) (.int (nI (rs_n zr 0))) (.ref (ad 12)) (.ref (ad 13)) (.ref (ad 14)) (.ref (ad 15)) (.ref (ad 16)) (.int (nI (rs_n zr 1))) (.ref (ad 18)) (.ref (ad 19)) (.int (rs_i zr 20)) (.int (rs_i zr 21)) (.int (rs_i zr 22)) (.int (rs_i zr 23)) (.int (nI (rs_n zr 2))) (.ref (ad 25)) (.ref (ad 26)) (.ref (ad 27)) (.ref (ad 28)) (.ref (ad 29)) (.ref (ad 30)) (.ref (ad 31)) (.ref (ad 32)) (.ref (ad 33)) (.int (nI (rs_n zr 3))) (.ref (ad 35)) (.ref (ad 36)) (.ref (ad 37)) (.int (rs_i zr 38)) (ad 4) (ad 5) (ad 2) (ad 3) (rs_i zr 1) cq_11 (rs_i zr 1) (rs_I zr 2) (rs_I zr 3) al_9 ah_10 hfar (hr8.1 ▸ rng_tcL (rng_of hlh).1 c4) (hr8.2.1 ▸ rng_tcH (rng_of hlh).2 ⟨Int32.le_trans c4.1 c6.1, c6.2⟩)) (cwV 1 hts gX11_find_X11_narrowed rfl rfl rfl (by decide +kernel) ⟨Nat.le_of_ble_eq_true rfl, Nat.le_of_ble_eq_true rfl⟩) (pw_preV (va_recv hKc hPc (ci := 11) (q0 := 0) rfl rfl) hPc hKc hDc hN) rfl rfl hl.1 rfl (lv_room (Nat.le_of_ble_eq_true rfl)) dX11_find_61 ⟨Nat.le_of_ble_eq_true rfl, Nat.le_of_ble_eq_true rfl⟩) hS (fun q _ h => hFc q h) hFc (fun r12 u t H1 locs ht hvm hw hB hz1 hk1 hS => ?_)
        obtain ⟨fl1_13, fh1_14, al1_15, ah1_16, cq1_17, fa1_18⟩ := u
        have hr12 : ((minL (rs_i zr 1) al_9 al1_15 ∧ maxH (rs_i zr 1) ah_10 ah1_16) ∧ (rngL al1_15 ∧ rngL ah1_16)) ∧ ((r12 = -3 ∧ (∃ j, j < 48 ∧ ah1_16 j < al1_15 j) ∧ fl1_13 = (rs_I zr 2) ∧ fh1_14 = (rs_I zr 3) ∧ fa1_18 = (rs_i zr 1)) ∨ (r12 = nI (fa_cnt (chg (rs_I zr 2) (rs_I zr 3) al1_15 ah1_16) 48) ∧ (∀ j, j < 48 → ¬ ah1_16 j < al1_15 j) ∧ (∀ s n, s < 48 → n < 48 → nbr s n → (al1_15 n).toInt - (rs_i zr 1).toInt ≤ (al1_15 s).toInt ∧ (ah1_16 s).toInt ≤ (ah1_16 n).toInt + (rs_i zr 1).toInt) ∧ fl1_13 = al1_15 ∧ fh1_14 = ah1_16 ∧ fa1_18 = (rs_i zr 1))) := hw
        obtain ⟨hP1, hK1, hD1⟩ := hB
        rw [ht] at hP1
        obtain ⟨hP, hD⟩ := va_join (wr := [rcI cI ad zr 7 4, rcI cI ad zr 8 4, rcI cI ad zr 9 192, rcI cI ad zr 10 48, rcI cI ad zr 12 12, rcI cI ad zr 13 12, rcI cI ad zr 14 12, rcI cI ad zr 15 12, rcI cI ad zr 16 12, rcI cI ad zr 18 8, rcJ cJ ad zr 19 8, rcI cI ad zr 25 40, rcI cI ad zr 26 40, rcI cI ad zr 27 40, rcI cZ ad zr 28 40, rcJ cJ ad zr 29 40, rcJ cJ ad zr 30 40, rcJ cJ ad zr 31 40, rcJ cJ ad zr 32 40, rcJ cJ ad zr 33 40, rcI cI ad zr 35 80, rcI cI ad zr 36 80, rcI cI ad zr 37 80]) (w1 := [(qm, .inr (11, [.int (rs_i zr 0), .int fa1_18, .ref (ad 2), .ref (ad 3), .ref (ad 4), .ref (ad 5), .int cq1_17, .ref (ad 7), .ref (ad 8), .ref (ad 9), .ref (ad 10), .int (nI (rs_n zr 0)), .ref (ad 12), .ref (ad 13), .ref (ad 14), .ref (ad 15), .ref (ad 16), .int (nI (rs_n zr 1)), .ref (ad 18), .ref (ad 19), .int (rs_i zr 20), .int (rs_i zr 21), .int (rs_i zr 22), .int (rs_i zr 23), .int (nI (rs_n zr 2)), .ref (ad 25), .ref (ad 26), .ref (ad 27), .ref (ad 28), .ref (ad 29), .ref (ad 30), .ref (ad 31), .ref (ad 32), .ref (ad 33), .int (nI (rs_n zr 3)), .ref (ad 35), .ref (ad 36), .ref (ad 37), .int (rs_i zr 38)])), (ad 2, .inl (cI, 48, .inl fl1_13)), (ad 3, .inl (cI, 48, .inl fh1_14)), (ad 4, .inl (cI, 48, .inl al1_15)), (ad 5, .inl (cI, 48, .inl ah1_16))]) hP hD [25, 23, 24, 26, 27] [0, 1, 2, 3, 4, 5, 6, 7, 8, 9, 10, 11, 12, 13, 14, 15, 16, 17, 18, 19, 20, 21, 22] rfl rfl (by decide) (by decide) hk1 hFc hP1 hD1
        generalize H1 = H at hP hS ⊢
        have hP : va_P (dC, dI) vwCl [rcI cI ad zr 7 4, rcI cI ad zr 8 4, rcI cI ad zr 9 192, rcI cI ad zr 10 48, rcI cI ad zr 12 12, rcI cI ad zr 13 12, rcI cI ad zr 14 12, rcI cI ad zr 15 12, rcI cI ad zr 16 12, rcI cI ad zr 18 8, rcJ cJ ad zr 19 8, rcI cI ad zr 25 40, rcI cI ad zr 26 40, rcI cI ad zr 27 40, rcI cZ ad zr 28 40, rcJ cJ ad zr 29 40, rcJ cJ ad zr 30 40, rcJ cJ ad zr 31 40, rcJ cJ ad zr 32 40, rcJ cJ ad zr 33 40, rcI cI ad zr 35 80, rcI cI ad zr 36 80, rcI cI ad zr 37 80, (qm, .inr (11, [.int (rs_i zr 0), .int fa1_18, .ref (ad 2), .ref (ad 3), .ref (ad 4), .ref (ad 5), .int cq1_17, .ref (ad 7), .ref (ad 8), .ref (ad 9), .ref (ad 10), .int (nI (rs_n zr 0)), .ref (ad 12), .ref (ad 13), .ref (ad 14), .ref (ad 15), .ref (ad 16), .int (nI (rs_n zr 1)), .ref (ad 18), .ref (ad 19), .int (rs_i zr 20), .int (rs_i zr 21), .int (rs_i zr 22), .int (rs_i zr 23), .int (nI (rs_n zr 2)), .ref (ad 25), .ref (ad 26), .ref (ad 27), .ref (ad 28), .ref (ad 29), .ref (ad 30), .ref (ad 31), .ref (ad 32), .ref (ad 33), .int (nI (rs_n zr 3)), .ref (ad 35), .ref (ad 36), .ref (ad 37), .int (rs_i zr 38)])), (ad 2, .inl (cI, 48, .inl fl1_13)), (ad 3, .inl (cI, 48, .inl fh1_14)), (ad 4, .inl (cI, 48, .inl al1_15)), (ad 5, .inl (cI, 48, .inl ah1_16))] H := hP
        have hD : va_D _ [rcI cI ad zr 7 4, rcI cI ad zr 8 4, rcI cI ad zr 9 192, rcI cI ad zr 10 48, rcI cI ad zr 12 12, rcI cI ad zr 13 12, rcI cI ad zr 14 12, rcI cI ad zr 15 12, rcI cI ad zr 16 12, rcI cI ad zr 18 8, rcJ cJ ad zr 19 8, rcI cI ad zr 25 40, rcI cI ad zr 26 40, rcI cI ad zr 27 40, rcI cZ ad zr 28 40, rcJ cJ ad zr 29 40, rcJ cJ ad zr 30 40, rcJ cJ ad zr 31 40, rcJ cJ ad zr 32 40, rcJ cJ ad zr 33 40, rcI cI ad zr 35 80, rcI cI ad zr 36 80, rcI cI ad zr 37 80, (qm, .inr (11, [.int (rs_i zr 0), .int fa1_18, .ref (ad 2), .ref (ad 3), .ref (ad 4), .ref (ad 5), .int cq1_17, .ref (ad 7), .ref (ad 8), .ref (ad 9), .ref (ad 10), .int (nI (rs_n zr 0)), .ref (ad 12), .ref (ad 13), .ref (ad 14), .ref (ad 15), .ref (ad 16), .int (nI (rs_n zr 1)), .ref (ad 18), .ref (ad 19), .int (rs_i zr 20), .int (rs_i zr 21), .int (rs_i zr 22), .int (rs_i zr 23), .int (nI (rs_n zr 2)), .ref (ad 25), .ref (ad 26), .ref (ad 27), .ref (ad 28), .ref (ad 29), .ref (ad 30), .ref (ad 31), .ref (ad 32), .ref (ad 33), .int (nI (rs_n zr 3)), .ref (ad 35), .ref (ad 36), .ref (ad 37), .int (rs_i zr 38)])), (ad 2, .inl (cI, 48, .inl fl1_13)), (ad 3, .inl (cI, 48, .inl fh1_14)), (ad 4, .inl (cI, 48, .inl al1_15)), (ad 5, .inl (cI, 48, .inl ah1_16))] := hD
        subst hQ
        have hlf := lr_find_1 qm cI cJ cZ ad zr x y lo hi sq al_9 ah_10 cq_11 fl1_13 fh1_14 al1_15 ah1_16 cq1_17 fa1_18 r12 c2 c4 c6 hsq esq hr8 hr12 hI
        have hP9 : va_P (dC, dI) vwCl (rW qm cI cJ cZ ad (va_up (va_up (rs_i zr) 1 fa1_18) 6 cq1_17, rs_n zr, va_up (va_up (va_up (va_up (rs_I zr) 2 fl1_13) 3 fh1_14) 4 al1_15) 5 ah1_16, rs_L zr)) H := by rw [hlf.2]; exact hP.sub [23, 24, 25, 26, 27, 0, 1, 2, 3, 4, 5, 6, 7, 8, 9, 10, 11, 12, 13, 14, 15, 16, 17, 18, 19, 20, 21, 22] rfl
        have hD9 : va_D (va_A (rW qm cI cJ cZ ad zr) s.heap.size) (rW qm cI cJ cZ ad (va_up (va_up (rs_i zr) 1 fa1_18) 6 cq1_17, rs_n zr, va_up (va_up (va_up (va_up (rs_I zr) 2 fl1_13) 3 fh1_14) 4 al1_15) 5 ah1_16, rs_L zr)) := by rw [hlf.2]; exact hD.sub [23, 24, 25, 26, 27, 0, 1, 2, 3, 4, 5, 6, 7, 8, 9, 10, 11, 12, 13, 14, 15, 16, 17, 18, 19, 20, 21, 22] (by decide) rfl
        exact W.iret (v := r12) hx hb hr (fun t ht hW => ⟨⟨r12, (va_up (va_up (rs_i zr) 1 fa1_18) 6 cq1_17, rs_n zr, va_up (va_up (va_up (va_up (rs_I zr) 2 fl1_13) 3 fh1_14) 4 al1_15) 5 ah1_16, rs_L zr), rfl, ⟨hlf.1, (Or.inr (Or.inl ⟨c2, c4, c6, sq, hsq, esq, al_9, ah_10, cq_11, hr8, fl1_13, fh1_14, al1_15, ah1_16, cq1_17, fa1_18, r12, hr12, rfl, rfl⟩))⟩, by rw [ht]; exact hP9, va_K.moved hW.alike hK, hD9⟩, hS.F ht⟩) hS.2.2 dX11_find_64
      · skip
        have c6 := (fa_bool_prop hr5).1.mp c6
        refine lv_bipush (v := (-2)) hx hb dX11_find_36 (by decide) ?_
        subst hQ
        exact W.iret (v := (-2)) hx hb hr (fun t ht hW => ⟨⟨(-2), zr, rfl, ⟨hI, (Or.inr (Or.inr (Or.inl ⟨c2, c4, c6, rfl, rfl⟩)))⟩, (by rw [ht]; exact hP0), va_K.moved hW.alike hK, hD0⟩, (by rw [ht]; exact Nat.le_refl _), fun q _ _ => by rw [ht]⟩) (fun q h => absurd h List.not_mem_nil) dX11_find_38
  · skip
    have c2 := (fa_bool_prop hr1).1.mp c2
    refine lv_iconst (v := (-1)) hx hb dX11_find_8 (by decide) ?_
    subst hQ
    exact W.iret (v := (-1)) hx hb hr (fun t ht hW => ⟨⟨(-1), zr, rfl, ⟨hI, (Or.inr (Or.inr (Or.inr ⟨c2, rfl, rfl⟩)))⟩, (by rw [ht]; exact hP0), va_K.moved hW.alike hK, hD0⟩, (by rw [ht]; exact Nat.le_refl _), fun q _ _ => by rw [ht]⟩) (fun q h => absurd h List.not_mem_nil) dX11_find_9
theorem gpr_step {a b x y : Int64} (h : ∃ n, x = (gpr a b n).1 ∧ y = (gpr a b n).2) (hy : ¬ y = 0) : ∃ n, y = (gpr a b n).1 ∧ x - x / y * y = (gpr a b n).2 := by
  obtain ⟨n, rfl, rfl⟩ := h
  exact ⟨n + 1, by rw [gpr, if_neg hy], by rw [gpr, if_neg hy]⟩
theorem lrem_lt {x y : Int64} (hy : ¬ y = 0) : (x - x / y * y).toInt.natAbs < y.toInt.natAbs := by
  have hb : y.toInt ≠ 0 := fun q => hy (Int64.toInt_inj.mp (q.trans (by decide)))
  have h1 : (x - x / y * y).toInt = (x.toInt - x.toInt.tdiv y.toInt * y.toInt).bmod (2 ^ 64) := by
    rw [Int64.toInt_sub, Int64.toInt_mul, Int64.toInt_div]
    simp
  have h2 : x.toInt - x.toInt.tdiv y.toInt * y.toInt = x.toInt.tmod y.toInt := by
    have := Int.tmod_add_mul_tdiv x.toInt y.toInt
    rw [Int.mul_comm] at this
    omega
  have h3 : (x.toInt.tmod y.toInt).natAbs < y.toInt.natAbs := by
    rw [Int.natAbs_tmod]
    exact Nat.mod_lt _ (Int.natAbs_pos.mpr hb)
  have h4 := Int64.toInt_lt y
  have h5 := Int64.le_toInt y
  rw [h1, h2, Int.bmod_eq_of_le (by omega) (by omega)]
  exact h3
def rkU (z : RS2) (g : Int32) : Nat → Int64
  | 0 => 0
  | t + 1 => if rs_I z 25 t = g ∧ ¬ rs_I z 28 t = 0 ∧ 0 < rs_L z 29 t + rs_L z 30 t then rkU z g t + (rs_L z 29 t + rs_L z 30 t) * 2 * wsum (rs_I z 35) (rs_I z 36) (rs_I z 37) (nI t) (rs_n z 3) else rkU z g t
def rkD (z : RS2) (g : Int32) : Nat → Int64
  | 0 => 0
  | t + 1 => if rs_I z 25 t = g ∧ ¬ rs_I z 28 t = 0 ∧ 0 < rs_L z 29 t + rs_L z 30 t then rkD z g t + (rs_L z 29 t + rs_L z 30 t) * (rs_L z 29 t + rs_L z 30 t) else rkD z g t
theorem gpr_nz {a b r : Int64} (ha : ¬ a = 0) (h : ∃ n, (gpr a b n).2 = 0 ∧ r = (gpr a b n).1) : ¬ r = 0 := by
  obtain ⟨n, _, rfl⟩ := h
  induction n with
  | zero => exact ha
  | succ n ih =>
    rw [gpr]
    by_cases h : (gpr a b n).2 = 0
    · rw [if_pos h]; exact ih h
    · rw [if_neg h]; exact h
set_option maxHeartbeats 4000000 in
set_option maxRecDepth 100000 in
theorem r_common (l : Launch) (a : Int64) (b : Int64)  : Met l yX11_common wsX11_common ({ frames := 0, cells := 0, slots := 0, locals := 0 }) (p0 [.long a, .long b]) (vp_Sl (fun r => ∃ n, (gpr a b n).2 = 0 ∧ r = (gpr a b n).1)) 0 0 (fun _ => False) := by
  refine p0_met (cc := cX11_common) (maxL := 10) (ret := (some .long)) (by decide) rfl (Nat.le_of_ble_eq_true rfl) ?_
  intro p e s m below meth c0 hx hb hr hml hown hlocks hnm hts hN ls hl
  have hl : lv_has ls 10 [(0, .long a), (2, .long b)] := hl
  generalize hQ : MQ _ _ _ _ _ _ _ = Q
  refine lv_lload_n hx hb dX11_common_0 rfl (lv_at hl 0 rfl) ?_
  refine lv_lstore (lv' := [(4, .long a), (0, .long a), (2, .long b)]) hx hb dX11_common_1 hl (by decide) rfl (fun ls hl => ?_)
  refine lv_lload_n hx hb dX11_common_3 rfl (lv_at hl 2 rfl) ?_
  refine lv_lstore (lv' := [(6, .long b), (4, .long a), (0, .long a), (2, .long b)]) hx hb dX11_common_4 hl (by decide) rfl (fun ls hl => ?_)
  have loop6 : ∀ (ni6 : Nat) (x9 : Int64) (y9 : Int64) (ls : Array Slot), y9.toInt.natAbs < ni6 → (∃ n, x9 = (gpr a b n).1 ∧ y9 = (gpr a b n).2) → lv_has ls 10 [(6, .long y9), (4, .long x9), (0, .long a), (2, .long b)] → W p l e ({ frames := 0, cells := 0, slots := 0, locals := 0 } : Room) s m ([.long a, .long b] : List Value).toArray below meth c0 s.heap [] 0 0 Q (F0 m 6 ls []) := by
    intro ni6
    induction ni6 with
    | zero =>
      intro x9 y9 ls h1
      exact absurd h1 (Nat.not_lt_zero _)
    | succ ni6 ihi6 =>
      intro x9 y9 ls hfi6 hxy hl
      refine lv_lload hx hb dX11_common_6 (lv_at hl 0 rfl) ?_
      refine lv_lconst (v := 0) hx hb dX11_common_8 (by decide) ?_
      refine W.lcmp hx hb dX11_common_9 ?_
      refine lv_if_eq (tgt := 31) hx hb dX11_common_10 (by decide) (fun c1 => ?_) (fun c1 => ?_)
      · skip
        have c1 := (lg_cmp_eq _ _).mp c1
        refine lv_lload hx hb dX11_common_31 (lv_at hl 1 rfl) ?_
        subst hQ
        exact W.lret (v := x9) hx hb hr (fun t ht hW => ⟨x9, rfl, (hxy.imp (fun n q => ⟨q.2.symm.trans c1, q.1⟩)), ht⟩) (fun q h => absurd h List.not_mem_nil) dX11_common_33
      · skip
        have c1 := fun h => c1 ((lg_cmp_eq _ _).mpr h)
        refine lv_lload hx hb dX11_common_13 (lv_at hl 1 rfl) ?_
        refine lv_lload hx hb dX11_common_15 (lv_at hl 0 rfl) ?_
        refine lv_lrem hx hb dX11_common_17 c1 ?_
        refine lv_lstore (lv' := [(8, .long (x9 - x9 / y9 * y9)), (6, .long y9), (4, .long x9), (0, .long a), (2, .long b)]) hx hb dX11_common_18 hl (by decide) rfl (fun ls hl => ?_)
        refine lv_lload hx hb dX11_common_20 (lv_at hl 1 rfl) ?_
        refine lv_lstore (lv' := [(4, .long y9), (8, .long (x9 - x9 / y9 * y9)), (6, .long y9), (0, .long a), (2, .long b)]) hx hb dX11_common_22 hl (by decide) rfl (fun ls hl => ?_)
        refine lv_lload hx hb dX11_common_24 (lv_at hl 1 rfl) ?_
        refine lv_lstore (lv' := [(6, .long (x9 - x9 / y9 * y9)), (4, .long y9), (8, .long (x9 - x9 / y9 * y9)), (0, .long a), (2, .long b)]) hx hb dX11_common_26 hl (by decide) rfl (fun ls hl => ?_)
        refine lv_goto (tgt := 6) hx hb dX11_common_28 (by decide) ?_
        exact ihi6 y9 (x9 - x9 / y9 * y9) ls (Nat.lt_of_lt_of_le (lrem_lt c1) (Nat.le_of_lt_succ hfi6)) (gpr_step hxy c1) (lv_sub hl [0, 1, 3, 4] rfl)
  exact loop6 (b.toInt.natAbs + 1) a b ls (Nat.lt_succ_self _) ⟨0, rfl, rfl⟩ (lv_sub hl [0, 1, 2, 3] rfl)
def pR_skill (zr : RS2) (g : Int32) (wh : Int32) (r : Int64) (u : RS2) : Prop :=
  ((∀ j, j < rs_n zr 1 → g ≠ nI j) ∧ r = ((-9223372036854775808)) ∧ u = zr) ∨
  (∃ jg : Nat, g = nI jg ∧ (jg < rs_n zr 1) ∧ (0 ≤ wh ∧ wh ≤ 1) ∧ (¬ (rkU zr (nI jg) (rs_n zr 2)) = 0) ∧ ∃ r9 : Int64, (∃ n, (gpr (rkU zr (nI jg) (rs_n zr 2)) (rkD zr (nI jg) (rs_n zr 2)) n).2 = 0 ∧ r9 = (gpr (rkU zr (nI jg) (rs_n zr 2)) (rkD zr (nI jg) (rs_n zr 2)) n).1) ∧ (¬ wh = 0) ∧ r = ((rkD zr (nI jg) (rs_n zr 2)) / r9) ∧ u = zr) ∨
  (∃ jg : Nat, g = nI jg ∧ (jg < rs_n zr 1) ∧ (0 ≤ wh ∧ wh ≤ 1) ∧ (¬ (rkU zr (nI jg) (rs_n zr 2)) = 0) ∧ ∃ r9 : Int64, (∃ n, (gpr (rkU zr (nI jg) (rs_n zr 2)) (rkD zr (nI jg) (rs_n zr 2)) n).2 = 0 ∧ r9 = (gpr (rkU zr (nI jg) (rs_n zr 2)) (rkD zr (nI jg) (rs_n zr 2)) n).1) ∧ (wh = 0) ∧ r = ((rkU zr (nI jg) (rs_n zr 2)) / r9) ∧ u = zr) ∨
  (∃ jg : Nat, g = nI jg ∧ (jg < rs_n zr 1) ∧ (0 ≤ wh ∧ wh ≤ 1) ∧ ((rkU zr (nI jg) (rs_n zr 2)) = 0) ∧ r = (wh.toInt64) ∧ u = zr) ∨
  (∃ jg : Nat, g = nI jg ∧ (jg < rs_n zr 1) ∧ (¬ (0 ≤ wh ∧ wh ≤ 1)) ∧ r = ((-9223372036854775808)) ∧ u = zr)
set_option maxHeartbeats 4000000 in
set_option maxRecDepth 100000 in
theorem M_skill (l : Launch) (dC : Nat → ClassId) (dI : Nat → Nat → Nat) (cI cJ cZ : ClassId) (sz : Nat) (qm : Nat) (ad : Nat → Nat) (zr : RS2) (g : Int32) (wh : Int32) (hI : invR zr) : Met l yX11_skill wsX11_skill ({ frames := 3, cells := 0, slots := 0, locals := 90 }) (pw (dC, dI) [(cI, .int), (cJ, .long), (cZ, .boolean)] (rW qm cI cJ cZ ad zr) sz [.ref qm, .int g, .int wh]) (va_Ql (fun r (u : RS2) => invR u ∧ pR_skill zr g wh r u) (fun u t => bw (dC, dI) [(cI, .int), (cJ, .long), (cZ, .boolean)] (va_A (rW qm cI cJ cZ ad zr) sz) (rW qm cI cJ cZ ad u) t) (va_A (rW qm cI cJ cZ ad zr) sz)) 0 0 (va_A (rW qm cI cJ cZ ad zr) sz) := by
  refine pw_met (cc := cX11_skill) (maxL := 10) (ret := (some .long)) (by decide) rfl (Nat.le_of_ble_eq_true rfl) ?_
  intro p e s m below meth c0 hx hb hr hml hown hlocks hnm hts hP0 hK hD0 hN hsz hA hS ls hl
  subst hsz
  have hP : va_P (dC, dI) vwCl [rcO qm ad zr, rcI cI ad zr 2 48, rcI cI ad zr 3 48, rcI cI ad zr 4 48, rcI cI ad zr 5 48, rcI cI ad zr 7 4, rcI cI ad zr 8 4, rcI cI ad zr 9 192, rcI cI ad zr 10 48, rcI cI ad zr 12 12, rcI cI ad zr 13 12, rcI cI ad zr 14 12, rcI cI ad zr 15 12, rcI cI ad zr 16 12, rcI cI ad zr 18 8, rcJ cJ ad zr 19 8, rcI cI ad zr 25 40, rcI cI ad zr 26 40, rcI cI ad zr 27 40, rcI cZ ad zr 28 40, rcJ cJ ad zr 29 40, rcJ cJ ad zr 30 40, rcJ cJ ad zr 31 40, rcJ cJ ad zr 32 40, rcJ cJ ad zr 33 40, rcI cI ad zr 35 80, rcI cI ad zr 36 80, rcI cI ad zr 37 80] s.heap := hP0
  have hD : va_D (va_A (rW qm cI cJ cZ ad zr) s.heap.size) [rcO qm ad zr, rcI cI ad zr 2 48, rcI cI ad zr 3 48, rcI cI ad zr 4 48, rcI cI ad zr 5 48, rcI cI ad zr 7 4, rcI cI ad zr 8 4, rcI cI ad zr 9 192, rcI cI ad zr 10 48, rcI cI ad zr 12 12, rcI cI ad zr 13 12, rcI cI ad zr 14 12, rcI cI ad zr 15 12, rcI cI ad zr 16 12, rcI cI ad zr 18 8, rcJ cJ ad zr 19 8, rcI cI ad zr 25 40, rcI cI ad zr 26 40, rcI cI ad zr 27 40, rcI cZ ad zr 28 40, rcJ cJ ad zr 29 40, rcJ cJ ad zr 30 40, rcJ cJ ad zr 31 40, rcJ cJ ad zr 32 40, rcJ cJ ad zr 33 40, rcI cI ad zr 35 80, rcI cI ad zr 36 80, rcI cI ad zr 37 80] := hD0
  obtain ⟨⟨hn0, hn1, hn2, hn3⟩, hfar, hlh, hss, hsold, htk, hpk⟩ := id hI
  have hl : lv_has ls 10 [(0, .ref qm), (1, .int g), (2, .int wh)] := hl
  have hiX11 : ∀ w ∈ wsX110, w ∈ wsX11_skill := fun _ h => List.mem_cons_of_mem _ (List.mem_append_right _ (h))
  generalize hQ : MQ _ _ _ _ _ _ _ = Q
  refine lv_aload_n hx hb dX11_skill_0 rfl (lv_at hl 0 rfl) ?_
  refine lv_iload_n hx hb dX11_skill_1 rfl (lv_at hl 1 rfl) ?_
  have hPc := hP.sub (ws' := [rcO qm ad zr]) [0] rfl
  have hDc := hD.sub (ws' := [rcO qm ad zr]) [0] (by decide) rfl
  have hKc := hK.sub (tys' := []) [] rfl
  refine vp_callSi (va_Run.run (va_runV (As := [.int g]) (rest := []) ⟨hx, hb, hml, hown, hts⟩ (r_X11_noGang l dC dI  _ qm (.int (rs_i zr 0)) (.int (rs_i zr 1)) (.ref (ad 2)) (.ref (ad 3)) (.ref (ad 4)) (.ref (ad 5)) (.int (rs_i zr 6)) (.ref (ad 7)) (.ref (ad 8)) (.ref (ad 9)) (.ref (ad 10)) (.int (nI (rs_n zr 0))) (.ref (ad 12)) (.ref (ad 13)) (.ref (ad 14)) (.ref (ad 15)) (.ref (ad 16)) (.ref (ad 18)) (.ref (ad 19)) (.int (rs_i zr 20)) (.int (rs_i zr 21)) (.int (rs_i zr 22)) (.int (rs_i zr 23)) (.int (nI (rs_n zr 2))) (.ref (ad 25)) (.ref (ad 26)) (.ref (ad 27)) (.ref (ad 28)) (.ref (ad 29)) (.ref (ad 30)) (.ref (ad 31)) (.ref (ad 32)) (.ref (ad 33)) (.int (nI (rs_n zr 3))) (.ref (ad 35)) (.ref (ad 36)) (.ref (ad 37)) (.int (rs_i zr 38)) (nI (rs_n zr 1)) g (rs_n zr 1) rfl (by omega)) (cwV 1 hts gX11_skill_X11_noGang rfl rfl rfl (by decide +kernel) ⟨Nat.le_of_ble_eq_true rfl, Nat.le_of_ble_eq_true rfl⟩) (pw_preV (va_recv hKc hPc (ci := 11) (q0 := 0) rfl rfl) hPc hKc hDc hN) rfl rfl hl.1 rfl (lv_room (Nat.le_of_ble_eq_true rfl)) dX11_skill_2 ⟨Nat.le_of_ble_eq_true rfl, Nat.le_of_ble_eq_true rfl⟩)) (fun r1 hr1 => ?_)
  have hr1 : (r1 = 1 ∧ ∀ j, j < (rs_n zr 1) → g ≠ nI j) ∨ (r1 = 0 ∧ ∃ j, j < (rs_n zr 1) ∧ g = nI j) := hr1
  rcases hr1 with ⟨er1, hnojg⟩ | ⟨er1, jg, hjg, egjg⟩
  · subst er1
    refine lv_if_ne (tgt := 18) hx hb dX11_skill_5 (by decide) (fun c2 => ?_) (fun c2 => ?_)
    · skip
      refine vp_callSl (va_Run.run (va_runS (As := []) (rest := []) ⟨hx, hb, hml, hown, hts⟩ (c_X11_lost l  ) (va_cwS 0 hts gX11_skill_X11_lost rfl rfl rfl (by decide +kernel) ⟨Nat.le_of_ble_eq_true rfl, Nat.le_of_ble_eq_true rfl⟩) (p0_preS hN) rfl rfl hl.1 rfl (lv_room (Nat.le_of_ble_eq_true rfl)) dX11_skill_18 ⟨Nat.le_of_ble_eq_true rfl, Nat.le_of_ble_eq_true rfl⟩)) (fun r3 hr3 => ?_)
      have hr3 : r3 = (-9223372036854775808) := hr3
      subst hr3
      subst hQ
      exact W.lret (v := (-9223372036854775808)) hx hb hr (fun t ht hW => ⟨⟨(-9223372036854775808), zr, rfl, ⟨hI, (Or.inl ⟨hnojg, rfl, rfl⟩)⟩, (by rw [ht]; exact hP0), va_K.moved hW.alike hK, hD0⟩, (by rw [ht]; exact Nat.le_refl _), fun q _ _ => by rw [ht]⟩) (fun q h => absurd h List.not_mem_nil) dX11_skill_21
    · exact absurd c2 (by decide)
  · subst er1
    subst egjg
    refine lv_if_ne (tgt := 18) hx hb dX11_skill_5 (by decide) (fun c4 => ?_) (fun c4 => ?_)
    · exact absurd c4 (by decide)
    · skip
      refine lv_iload_n hx hb dX11_skill_8 rfl (lv_at hl 2 rfl) ?_
      refine lv_i2l (v := wh.toInt64) hx hb dX11_skill_9 rfl ?_
      refine lv_lconst (v := 0) hx hb dX11_skill_10 (by decide) ?_
      refine lv_lconst (v := 1) hx hb dX11_skill_11 (by decide) ?_
      refine vp_callSi (va_Run.run (va_runS (As := [.long wh.toInt64, .long 0, .long 1]) (rest := []) ⟨hx, hb, hml, hown, hts⟩ (c_X11_in l wh.toInt64 0 1 ) (va_cwS 3 hts gX11_skill_X11_in rfl rfl rfl (by decide +kernel) ⟨Nat.le_of_ble_eq_true rfl, Nat.le_of_ble_eq_true rfl⟩) (p0_preS hN) rfl rfl hl.1 rfl (lv_room (Nat.le_of_ble_eq_true rfl)) dX11_skill_12 ⟨Nat.le_of_ble_eq_true rfl, Nat.le_of_ble_eq_true rfl⟩)) (fun r5 hr5 => ?_)
      have hr5 : r5 = if 0 ≤ wh.toInt64 ∧ wh.toInt64 ≤ 1 then 1 else 0 := hr5
      have hr5 := hr5.trans (in_w _ 0 1 (by decide) (by decide))
      refine lv_if_ne (tgt := 22) hx hb dX11_skill_15 (by decide) (fun c6 => ?_) (fun c6 => ?_)
      · skip
        have c6 := (fa_bool_prop hr5).2.mp c6
        refine lv_lconst (v := 0) hx hb dX11_skill_22 (by decide) ?_
        refine lv_lstore_n (lv' := [(3, .long 0), (0, .ref qm), (1, .int (nI jg)), (2, .int wh)]) hx hb dX11_skill_23 rfl hl (by decide) rfl (fun ls hl => ?_)
        refine lv_lconst (v := 0) hx hb dX11_skill_24 (by decide) ?_
        refine lv_lstore (lv' := [(5, .long 0), (3, .long 0), (0, .ref qm), (1, .int (nI jg)), (2, .int wh)]) hx hb dX11_skill_25 hl (by decide) rfl (fun ls hl => ?_)
        refine lv_iconst (v := 0) hx hb dX11_skill_27 (by decide) ?_
        refine lv_istore (lv' := [(7, .int 0), (5, .long 0), (3, .long 0), (0, .ref qm), (1, .int (nI jg)), (2, .int wh)]) hx hb dX11_skill_28 hl (by decide) rfl (fun ls hl => ?_)
        have loop30 : ∀ (ni30 i30 : Nat) (ls : Array Slot), i30 ≤ (rs_n zr 2) → (rs_n zr 2) + 1 ≤ i30 + ni30 → lv_has ls 10 [(7, .int (nI i30)), (5, .long (rkD zr (nI jg) i30)), (3, .long (rkU zr (nI jg) i30)), (0, .ref qm), (1, .int (nI jg)), (2, .int wh)] → W p l e ({ frames := 3, cells := 0, slots := 0, locals := 90 } : Room) s m ([.ref qm, .int (nI jg), .int wh] : List Value).toArray below meth c0 s.heap [] 0 0 Q (F0 m 30 ls []) := by
          intro ni30
          induction ni30 with
          | zero =>
            intro i30  ls h1 h2
            exact absurd h2 (by omega)
          | succ ni30 ihi30 =>
            intro i30  ls hlei30 hni30  hl
            refine lv_iload hx hb dX11_skill_30 (lv_at hl 0 rfl) ?_
            refine lv_aload_n hx hb dX11_skill_32 rfl (lv_at hl 3 rfl) ?_
            refine va_get (D := (dC, dI)) (ci := 11) (v := .int (nI (rs_n zr 2))) (C := RX11) (T := TX11) (N := 39) hx hb hts hiX11 hown hK hP 0 rfl rfl 24 (by decide) (hts (.fieldLink RX11 188 "TributePitchesModel" "takes" "I") (List.mem_of_getElem? (i := 1) rfl)) (fun _ h9 => h9) rfl dX11_skill_33 ?_
            refine lv_icmp_ge (tgt := 116) hx hb dX11_skill_36 (by decide) (fun c7 => ?_) (fun c7 => ?_)
            · skip
              have hei30 : (rs_n zr 2) = i30 := (by have q := (nI_leI (a := (rs_n zr 2)) (b := i30) (by omega) (by omega)).mp c7; omega)
              subst hei30
              refine lv_lload_n hx hb dX11_skill_116 rfl (lv_at hl 2 rfl) ?_
              refine lv_lconst (v := 0) hx hb dX11_skill_117 (by decide) ?_
              refine W.lcmp hx hb dX11_skill_118 ?_
              refine lv_if_ne (tgt := 125) hx hb dX11_skill_119 (by decide) (fun c8 => ?_) (fun c8 => ?_)
              · skip
                have c8 := fun h => c8 ((lg_cmp_eq _ _).mpr h)
                refine lv_lload_n hx hb dX11_skill_125 rfl (lv_at hl 2 rfl) ?_
                refine lv_lload hx hb dX11_skill_126 (lv_at hl 1 rfl) ?_
                refine vp_callSl (va_Run.run (va_runS (As := [.long (rkU zr (nI jg) (rs_n zr 2)), .long (rkD zr (nI jg) (rs_n zr 2))]) (rest := []) ⟨hx, hb, hml, hown, hts⟩ (r_common l (rkU zr (nI jg) (rs_n zr 2)) (rkD zr (nI jg) (rs_n zr 2)) ) (va_cwS 2 hts gX11_skill_X11_common rfl rfl rfl (by decide +kernel) ⟨Nat.le_of_ble_eq_true rfl, Nat.le_of_ble_eq_true rfl⟩) (p0_preS hN) rfl rfl hl.1 rfl (lv_room (Nat.le_of_ble_eq_true rfl)) dX11_skill_128 ⟨Nat.le_of_ble_eq_true rfl, Nat.le_of_ble_eq_true rfl⟩)) (fun r9 hr9 => ?_)
                have hr9 : ∃ n, (gpr (rkU zr (nI jg) (rs_n zr 2)) (rkD zr (nI jg) (rs_n zr 2)) n).2 = 0 ∧ r9 = (gpr (rkU zr (nI jg) (rs_n zr 2)) (rkD zr (nI jg) (rs_n zr 2)) n).1 := hr9
                refine lv_lstore (lv' := [(7, .long r9), (5, .long (rkD zr (nI jg) (rs_n zr 2))), (3, .long (rkU zr (nI jg) (rs_n zr 2))), (0, .ref qm), (1, .int (nI jg)), (2, .int wh)]) hx hb dX11_skill_131 hl (by decide) rfl (fun ls hl => ?_)
                refine lv_iload_n hx hb dX11_skill_133 rfl (lv_at hl 5 rfl) ?_
                refine lv_if_ne (tgt := 144) hx hb dX11_skill_134 (by decide) (fun c10 => ?_) (fun c10 => ?_)
                · skip
                  refine lv_lload hx hb dX11_skill_144 (lv_at hl 1 rfl) ?_
                  refine lv_lload hx hb dX11_skill_146 (lv_at hl 0 rfl) ?_
                  refine lv_ldiv hx hb dX11_skill_148 (gpr_nz c8 hr9) ?_
                  subst hQ
                  exact W.lret (v := (rkD zr (nI jg) (rs_n zr 2)) / r9) hx hb hr (fun t ht hW => ⟨⟨(rkD zr (nI jg) (rs_n zr 2)) / r9, zr, rfl, ⟨hI, (Or.inr (Or.inl ⟨jg, rfl, hjg, c6, c8, r9, hr9, c10, rfl, rfl⟩))⟩, (by rw [ht]; exact hP0), va_K.moved hW.alike hK, hD0⟩, (by rw [ht]; exact Nat.le_refl _), fun q _ _ => by rw [ht]⟩) (fun q h => absurd h List.not_mem_nil) dX11_skill_149
                · skip
                  refine lv_lload_n hx hb dX11_skill_137 rfl (lv_at hl 2 rfl) ?_
                  refine lv_lload hx hb dX11_skill_138 (lv_at hl 0 rfl) ?_
                  refine lv_ldiv hx hb dX11_skill_140 (gpr_nz c8 hr9) ?_
                  refine lv_goto (tgt := 149) hx hb dX11_skill_141 (by decide) ?_
                  subst hQ
                  exact W.lret (v := (rkU zr (nI jg) (rs_n zr 2)) / r9) hx hb hr (fun t ht hW => ⟨⟨(rkU zr (nI jg) (rs_n zr 2)) / r9, zr, rfl, ⟨hI, (Or.inr (Or.inr (Or.inl ⟨jg, rfl, hjg, c6, c8, r9, hr9, c10, rfl, rfl⟩)))⟩, (by rw [ht]; exact hP0), va_K.moved hW.alike hK, hD0⟩, (by rw [ht]; exact Nat.le_refl _), fun q _ _ => by rw [ht]⟩) (fun q h => absurd h List.not_mem_nil) dX11_skill_149
              · skip
                have c8 := (lg_cmp_eq _ _).mp c8
                refine lv_iload_n hx hb dX11_skill_122 rfl (lv_at hl 5 rfl) ?_
                refine lv_i2l (v := wh.toInt64) hx hb dX11_skill_123 rfl ?_
                subst hQ
                exact W.lret (v := wh.toInt64) hx hb hr (fun t ht hW => ⟨⟨wh.toInt64, zr, rfl, ⟨hI, (Or.inr (Or.inr (Or.inr (Or.inl ⟨jg, rfl, hjg, c6, c8, rfl, rfl⟩))))⟩, (by rw [ht]; exact hP0), va_K.moved hW.alike hK, hD0⟩, (by rw [ht]; exact Nat.le_refl _), fun q _ _ => by rw [ht]⟩) (fun q h => absurd h List.not_mem_nil) dX11_skill_124
            · skip
              have hlti30 : i30 < (rs_n zr 2) := (Nat.lt_or_ge i30 (rs_n zr 2)).elim id (fun q => absurd (nI_le q (by omega)) c7)
              refine lv_aload_n hx hb dX11_skill_39 rfl (lv_at hl 3 rfl) ?_
              refine va_get (D := (dC, dI)) (ci := 11) (v := .ref (ad 29)) (C := RX11) (T := TX11) (N := 39) hx hb hts hiX11 hown hK hP 0 rfl rfl 29 (by decide) (hts (.fieldLink RX11 69 "TributePitchesModel" "least" "[J") (List.mem_of_getElem? (i := 2) rfl)) (fun _ h9 => h9) rfl dX11_skill_40 ?_
              refine lv_iload hx hb dX11_skill_43 (lv_at hl 0 rfl) ?_
              refine va_lald hx hb hK hP 20 1 rfl rfl (vp_in_nI (by omega) (by omega)) dX11_skill_45 ?_
              refine lv_topl (fun v11 ev11 => ?_)
              have ev11 : v11 = (rs_L zr 29) i30 := by rw [ev11]; rw [nI_clamp (by omega)]
              subst ev11
              refine lv_aload_n hx hb dX11_skill_46 rfl (lv_at hl 3 rfl) ?_
              refine va_get (D := (dC, dI)) (ci := 11) (v := .ref (ad 30)) (C := RX11) (T := TX11) (N := 39) hx hb hts hiX11 hown hK hP 0 rfl rfl 30 (by decide) (hts (.fieldLink RX11 72 "TributePitchesModel" "greatest" "[J") (List.mem_of_getElem? (i := 3) rfl)) (fun _ h9 => h9) rfl dX11_skill_47 ?_
              refine lv_iload hx hb dX11_skill_50 (lv_at hl 0 rfl) ?_
              refine va_lald hx hb hK hP 21 1 rfl rfl (vp_in_nI (by omega) (by omega)) dX11_skill_52 ?_
              refine lv_topl (fun v12 ev12 => ?_)
              have ev12 : v12 = (rs_L zr 30) i30 := by rw [ev12]; rw [nI_clamp (by omega)]
              subst ev12
              refine lv_ladd hx hb dX11_skill_53 ?_
              refine lv_lstore (lv' := [(8, .long (((rs_L zr 29) i30) + ((rs_L zr 30) i30))), (7, .int (nI i30)), (5, .long (rkD zr (nI jg) i30)), (3, .long (rkU zr (nI jg) i30)), (0, .ref qm), (1, .int (nI jg)), (2, .int wh)]) hx hb dX11_skill_54 hl (by decide) rfl (fun ls hl => ?_)
              refine lv_aload_n hx hb dX11_skill_56 rfl (lv_at hl 4 rfl) ?_
              refine va_get (D := (dC, dI)) (ci := 11) (v := .ref (ad 25)) (C := RX11) (T := TX11) (N := 39) hx hb hts hiX11 hown hK hP 0 rfl rfl 25 (by decide) (hts (.fieldLink RX11 56 "TributePitchesModel" "gangOf" "[I") (List.mem_of_getElem? (i := 4) rfl)) (fun _ h9 => h9) rfl dX11_skill_57 ?_
              refine lv_iload hx hb dX11_skill_60 (lv_at hl 1 rfl) ?_
              refine va_iald hx hb hK hP 16 0 rfl rfl (vp_in_nI (by omega) (by omega)) dX11_skill_62 ?_
              refine lv_topi (fun v13 ev13 => ?_)
              have ev13 : v13 = (rs_I zr 25) i30 := by rw [ev13]; rw [nI_clamp (by omega)]
              subst ev13
              refine lv_iload_n hx hb dX11_skill_63 rfl (lv_at hl 5 rfl) ?_
              refine lv_icmp_ne (tgt := 110) hx hb dX11_skill_64 (by decide) (fun c14 => ?_) (fun c14 => ?_)
              · skip
                refine lv_iinc (v := nI (i30 + 1)) (lv' := [(7, .int (nI (i30 + 1))), (8, .long (((rs_L zr 29) i30) + ((rs_L zr 30) i30))), (5, .long (rkD zr (nI jg) i30)), (3, .long (rkU zr (nI jg) i30)), (0, .ref qm), (1, .int (nI jg)), (2, .int wh)]) hx hb dX11_skill_110 hl (k := 1) rfl (nI_1 i30) (by decide) rfl (fun ls hl => ?_)
                refine lv_goto (tgt := 30) hx hb dX11_skill_113 (by decide) ?_
                have e3 : rkU zr (nI jg) (i30 + 1) = rkU zr (nI jg) i30 := by rw [rkU]; simp [c14]
                have e5 : rkD zr (nI jg) (i30 + 1) = rkD zr (nI jg) i30 := by rw [rkD]; simp [c14]
                rw [← e3, ← e5] at hl
                have hl : lv_has ls 10 [(7, .int (nI (i30 + 1))), (8, .long (((rs_L zr 29) i30) + ((rs_L zr 30) i30))), (5, .long (rkD zr (nI jg) (i30 + 1))), (3, .long (rkU zr (nI jg) (i30 + 1))), (0, .ref qm), (1, .int (nI jg)), (2, .int wh)] := hl
                exact ihi30 (i30 + 1)  ls (by omega) (by omega)  (lv_sub hl [0, 2, 3, 4, 5, 6] rfl)
              · skip
                refine lv_aload_n hx hb dX11_skill_67 rfl (lv_at hl 4 rfl) ?_
                refine va_get (D := (dC, dI)) (ci := 11) (v := .ref (ad 28)) (C := RX11) (T := TX11) (N := 39) hx hb hts hiX11 hown hK hP 0 rfl rfl 28 (by decide) (hts (.fieldLink RX11 65 "TributePitchesModel" "isSettled" "[Z") (List.mem_of_getElem? (i := 5) rfl)) (fun _ h9 => h9) rfl dX11_skill_68 ?_
                refine lv_iload hx hb dX11_skill_71 (lv_at hl 1 rfl) ?_
                refine va_zald hx hb hK hP 19 2 rfl rfl (vp_in_nI (by omega) (by omega)) dX11_skill_73 ?_
                refine lv_topi (fun v15 ev15 => ?_)
                have ev15 : v15 = (rs_I zr 28) i30 := by rw [ev15]; rw [nI_clamp (by omega)]
                subst ev15
                refine lv_if_eq (tgt := 110) hx hb dX11_skill_74 (by decide) (fun c16 => ?_) (fun c16 => ?_)
                · skip
                  refine lv_iinc (v := nI (i30 + 1)) (lv' := [(7, .int (nI (i30 + 1))), (8, .long (((rs_L zr 29) i30) + ((rs_L zr 30) i30))), (5, .long (rkD zr (nI jg) i30)), (3, .long (rkU zr (nI jg) i30)), (0, .ref qm), (1, .int (nI jg)), (2, .int wh)]) hx hb dX11_skill_110 hl (k := 1) rfl (nI_1 i30) (by decide) rfl (fun ls hl => ?_)
                  refine lv_goto (tgt := 30) hx hb dX11_skill_113 (by decide) ?_
                  have e3 : rkU zr (nI jg) (i30 + 1) = rkU zr (nI jg) i30 := by rw [rkU]; simp [c14, c16]
                  have e5 : rkD zr (nI jg) (i30 + 1) = rkD zr (nI jg) i30 := by rw [rkD]; simp [c14, c16]
                  rw [← e3, ← e5] at hl
                  have hl : lv_has ls 10 [(7, .int (nI (i30 + 1))), (8, .long (((rs_L zr 29) i30) + ((rs_L zr 30) i30))), (5, .long (rkD zr (nI jg) (i30 + 1))), (3, .long (rkU zr (nI jg) (i30 + 1))), (0, .ref qm), (1, .int (nI jg)), (2, .int wh)] := hl
                  exact ihi30 (i30 + 1)  ls (by omega) (by omega)  (lv_sub hl [0, 2, 3, 4, 5, 6] rfl)
                · skip
                  refine lv_lload hx hb dX11_skill_77 (lv_at hl 0 rfl) ?_
                  refine lv_lconst (v := 0) hx hb dX11_skill_79 (by decide) ?_
                  refine W.lcmp hx hb dX11_skill_80 ?_
                  refine lv_if_le (tgt := 110) hx hb dX11_skill_81 (by decide) (fun c17 => ?_) (fun c17 => ?_)
                  · skip
                    have c17 := (lg_cmp_le _ _).mp c17
                    refine lv_iinc (v := nI (i30 + 1)) (lv' := [(7, .int (nI (i30 + 1))), (8, .long (((rs_L zr 29) i30) + ((rs_L zr 30) i30))), (5, .long (rkD zr (nI jg) i30)), (3, .long (rkU zr (nI jg) i30)), (0, .ref qm), (1, .int (nI jg)), (2, .int wh)]) hx hb dX11_skill_110 hl (k := 1) rfl (nI_1 i30) (by decide) rfl (fun ls hl => ?_)
                    refine lv_goto (tgt := 30) hx hb dX11_skill_113 (by decide) ?_
                    have e3 : rkU zr (nI jg) (i30 + 1) = rkU zr (nI jg) i30 := by rw [rkU]; simp [c14, c16, Int64.not_lt.mpr c17]
                    have e5 : rkD zr (nI jg) (i30 + 1) = rkD zr (nI jg) i30 := by rw [rkD]; simp [c14, c16, Int64.not_lt.mpr c17]
                    rw [← e3, ← e5] at hl
                    have hl : lv_has ls 10 [(7, .int (nI (i30 + 1))), (8, .long (((rs_L zr 29) i30) + ((rs_L zr 30) i30))), (5, .long (rkD zr (nI jg) (i30 + 1))), (3, .long (rkU zr (nI jg) (i30 + 1))), (0, .ref qm), (1, .int (nI jg)), (2, .int wh)] := hl
                    exact ihi30 (i30 + 1)  ls (by omega) (by omega)  (lv_sub hl [0, 2, 3, 4, 5, 6] rfl)
                  · skip
                    have c17 := fun h => c17 ((lg_cmp_le _ _).mpr h)
                    refine lv_lload_n hx hb dX11_skill_84 rfl (lv_at hl 3 rfl) ?_
                    refine lv_lload hx hb dX11_skill_85 (lv_at hl 0 rfl) ?_
                    refine lv_ldc2 (v := 2) hx hb hown (hts (.constantLong RX11 151 (2)) (List.mem_of_getElem? (i := 6) rfl)) dX11_skill_87 ?_
                    refine lv_lmul hx hb dX11_skill_90 ?_
                    refine lv_aload_n hx hb dX11_skill_91 rfl (lv_at hl 4 rfl) ?_
                    refine lv_iload hx hb dX11_skill_92 (lv_at hl 1 rfl) ?_
                    have hPc := hP.sub (ws' := [rcO qm ad zr, rcI cI ad zr 35 80, rcI cI ad zr 36 80, rcI cI ad zr 37 80]) [0, 25, 26, 27] rfl
                    have hDc := hD.sub (ws' := [rcO qm ad zr, rcI cI ad zr 35 80, rcI cI ad zr 36 80, rcI cI ad zr 37 80]) [0, 25, 26, 27] (by decide) rfl
                    have hKc := hK.sub (tys' := [(cI, .int)]) [0] rfl
                    refine vp_callSl (va_Run.run (va_runV (As := [.int (nI i30)]) (rest := [.long ((((rs_L zr 29) i30) + ((rs_L zr 30) i30)) * 2), .long (rkU zr (nI jg) i30)]) ⟨hx, hb, hml, hown, hts⟩ (r_X11_worthOf l dC dI cI _ qm (.int (rs_i zr 0)) (.int (rs_i zr 1)) (.ref (ad 2)) (.ref (ad 3)) (.ref (ad 4)) (.ref (ad 5)) (.int (rs_i zr 6)) (.ref (ad 7)) (.ref (ad 8)) (.ref (ad 9)) (.ref (ad 10)) (.int (nI (rs_n zr 0))) (.ref (ad 12)) (.ref (ad 13)) (.ref (ad 14)) (.ref (ad 15)) (.ref (ad 16)) (.int (nI (rs_n zr 1))) (.ref (ad 18)) (.ref (ad 19)) (.int (rs_i zr 20)) (.int (rs_i zr 21)) (.int (rs_i zr 22)) (.int (rs_i zr 23)) (.int (nI (rs_n zr 2))) (.ref (ad 25)) (.ref (ad 26)) (.ref (ad 27)) (.ref (ad 28)) (.ref (ad 29)) (.ref (ad 30)) (.ref (ad 31)) (.ref (ad 32)) (.ref (ad 33)) (.int (rs_i zr 38)) (ad 35) (ad 36) (ad 37) (nI (rs_n zr 3)) (nI i30) (rs_n zr 3) (rs_I zr 35) (rs_I zr 36) (rs_I zr 37) rfl (by omega)) (cwV 1 hts gX11_skill_X11_worthOf rfl rfl rfl (by decide +kernel) ⟨Nat.le_of_ble_eq_true rfl, Nat.le_of_ble_eq_true rfl⟩) (pw_preV (va_recv hKc hPc (ci := 11) (q0 := 0) rfl rfl) hPc hKc hDc hN) rfl rfl hl.1 rfl (lv_room (Nat.le_of_ble_eq_true rfl)) dX11_skill_94 ⟨Nat.le_of_ble_eq_true rfl, Nat.le_of_ble_eq_true rfl⟩)) (fun r18 hr18 => ?_)
                    have hr18 : r18 = wsum (rs_I zr 35) (rs_I zr 36) (rs_I zr 37) (nI i30) (rs_n zr 3) := hr18
                    have hr18 := hr18.symm
                    subst hr18
                    refine W.eq (g2 := F0 m 97 ls [.long (wsum (rs_I zr 35) (rs_I zr 36) (rs_I zr 37) (nI i30) (rs_n zr 3)), .long ((((rs_L zr 29) i30) + ((rs_L zr 30) i30)) * 2), .long (rkU zr (nI jg) i30)]) rfl ?_
                    refine lv_lmul hx hb dX11_skill_97 ?_
                    refine lv_ladd hx hb dX11_skill_98 ?_
                    refine lv_lstore_n (lv' := [(3, .long ((rkU zr (nI jg) i30) + (((((rs_L zr 29) i30) + ((rs_L zr 30) i30)) * 2) * (wsum (rs_I zr 35) (rs_I zr 36) (rs_I zr 37) (nI i30) (rs_n zr 3))))), (8, .long (((rs_L zr 29) i30) + ((rs_L zr 30) i30))), (7, .int (nI i30)), (5, .long (rkD zr (nI jg) i30)), (0, .ref qm), (1, .int (nI jg)), (2, .int wh)]) hx hb dX11_skill_99 rfl hl (by decide) rfl (fun ls hl => ?_)
                    refine lv_lload hx hb dX11_skill_100 (lv_at hl 3 rfl) ?_
                    refine lv_lload hx hb dX11_skill_102 (lv_at hl 1 rfl) ?_
                    refine lv_lload hx hb dX11_skill_104 (lv_at hl 1 rfl) ?_
                    refine lv_lmul hx hb dX11_skill_106 ?_
                    refine lv_ladd hx hb dX11_skill_107 ?_
                    refine lv_lstore (lv' := [(5, .long ((rkD zr (nI jg) i30) + ((((rs_L zr 29) i30) + ((rs_L zr 30) i30)) * (((rs_L zr 29) i30) + ((rs_L zr 30) i30))))), (3, .long ((rkU zr (nI jg) i30) + (((((rs_L zr 29) i30) + ((rs_L zr 30) i30)) * 2) * (wsum (rs_I zr 35) (rs_I zr 36) (rs_I zr 37) (nI i30) (rs_n zr 3))))), (8, .long (((rs_L zr 29) i30) + ((rs_L zr 30) i30))), (7, .int (nI i30)), (0, .ref qm), (1, .int (nI jg)), (2, .int wh)]) hx hb dX11_skill_108 hl (by decide) rfl (fun ls hl => ?_)
                    refine lv_iinc (v := nI (i30 + 1)) (lv' := [(7, .int (nI (i30 + 1))), (5, .long ((rkD zr (nI jg) i30) + ((((rs_L zr 29) i30) + ((rs_L zr 30) i30)) * (((rs_L zr 29) i30) + ((rs_L zr 30) i30))))), (3, .long ((rkU zr (nI jg) i30) + (((((rs_L zr 29) i30) + ((rs_L zr 30) i30)) * 2) * (wsum (rs_I zr 35) (rs_I zr 36) (rs_I zr 37) (nI i30) (rs_n zr 3))))), (8, .long (((rs_L zr 29) i30) + ((rs_L zr 30) i30))), (0, .ref qm), (1, .int (nI jg)), (2, .int wh)]) hx hb dX11_skill_110 hl (k := 3) rfl (nI_1 i30) (by decide) rfl (fun ls hl => ?_)
                    refine lv_goto (tgt := 30) hx hb dX11_skill_113 (by decide) ?_
                    have e3 : rkU zr (nI jg) (i30 + 1) = (rkU zr (nI jg) i30) + (((((rs_L zr 29) i30) + ((rs_L zr 30) i30)) * 2) * (wsum (rs_I zr 35) (rs_I zr 36) (rs_I zr 37) (nI i30) (rs_n zr 3))) := by rw [rkU]; simp [c14, c16, Int64.not_le.mp c17]
                    have e5 : rkD zr (nI jg) (i30 + 1) = (rkD zr (nI jg) i30) + ((((rs_L zr 29) i30) + ((rs_L zr 30) i30)) * (((rs_L zr 29) i30) + ((rs_L zr 30) i30))) := by rw [rkD]; simp [c14, c16, Int64.not_le.mp c17]
                    rw [← e3, ← e5] at hl
                    have hl : lv_has ls 10 [(7, .int (nI (i30 + 1))), (5, .long (rkD zr (nI jg) (i30 + 1))), (3, .long (rkU zr (nI jg) (i30 + 1))), (8, .long (((rs_L zr 29) i30) + ((rs_L zr 30) i30))), (0, .ref qm), (1, .int (nI jg)), (2, .int wh)] := hl
                    exact ihi30 (i30 + 1)  ls (by omega) (by omega)  (lv_sub hl [0, 1, 2, 4, 5, 6] rfl)
        exact loop30 ((rs_n zr 2) + 1 - 0) 0  ls (by omega) (by omega)  (lv_sub hl [0, 1, 2, 3, 4, 5] rfl)
      · skip
        have c6 := (fa_bool_prop hr5).1.mp c6
        refine vp_callSl (va_Run.run (va_runS (As := []) (rest := []) ⟨hx, hb, hml, hown, hts⟩ (c_X11_lost l  ) (va_cwS 0 hts gX11_skill_X11_lost rfl rfl rfl (by decide +kernel) ⟨Nat.le_of_ble_eq_true rfl, Nat.le_of_ble_eq_true rfl⟩) (p0_preS hN) rfl rfl hl.1 rfl (lv_room (Nat.le_of_ble_eq_true rfl)) dX11_skill_18 ⟨Nat.le_of_ble_eq_true rfl, Nat.le_of_ble_eq_true rfl⟩)) (fun r19 hr19 => ?_)
        have hr19 : r19 = (-9223372036854775808) := hr19
        subst hr19
        subst hQ
        exact W.lret (v := (-9223372036854775808)) hx hb hr (fun t ht hW => ⟨⟨(-9223372036854775808), zr, rfl, ⟨hI, (Or.inr (Or.inr (Or.inr (Or.inr ⟨jg, rfl, hjg, c6, rfl, rfl⟩))))⟩, (by rw [ht]; exact hP0), va_K.moved hW.alike hK, hD0⟩, (by rw [ht]; exact Nat.le_refl _), fun q _ _ => by rw [ht]⟩) (fun q h => absurd h List.not_mem_nil) dX11_skill_21
