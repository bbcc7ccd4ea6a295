def psus (z : CS) (k : Nat) : Bool := decide (pmax (cs_I z 1) (rXa z (cs_N z 4 k)) (rWa z (cs_N z 4 k)) (rYa z (cs_N z 4 k)) (rHa z (cs_N z 4 k) + 1) < cs_I z 40 k)
def gpr (a b : Int64) : Nat → Int64 × Int64
  | 0 => (a, b)
  | n + 1 => if (gpr a b n).2 = 0 then gpr a b n else ((gpr a b n).2, (gpr a b n).1 - (gpr a b n).1 / (gpr a b n).2 * (gpr a b n).2)
theorem gpr_stop {a b : Int64} {i n : Nat} (h : (gpr a b i).2 = 0) (hi : i ≤ n) : (gpr a b n).1 = (gpr a b i).1 := by
  have key : ∀ k, gpr a b (i + k) = gpr a b i := by
    intro k
    induction k with
    | zero => rfl
    | succ k ih => rw [← Nat.add_assoc, gpr, ih, if_pos h]
  rw [show n = i + (n - i) by omega, key]
def skU (z : CS) (g : Nat) : Nat → Int64
  | 0 => 0
  | t + 1 => if cs_N z 2 t = g ∧ ¬ cs_I z 33 t = 0 then skU z g t + (cs_L z 1 t + cs_L z 2 t) * (2 * cs_L z 3 t) else skU z g t
def skD (z : CS) (g : Nat) : Nat → Int64
  | 0 => 0
  | t + 1 => if cs_N z 2 t = g ∧ ¬ cs_I z 33 t = 0 then skD z g t + (cs_L z 1 t + cs_L z 2 t) * (cs_L z 1 t + cs_L z 2 t) else skD z g t
set_option maxHeartbeats 4000000 in
set_option maxRecDepth 100000 in
theorem s_commonDivisor (l : Launch) (a : Int64) (b : Int64)  : Met l yX10_commonDivisor wsX10_commonDivisor ({ frames := 0, cells := 0, slots := 0, locals := 0 }) (p0 [.long a, .long b]) (vp_Sl (fun r => r = (gpr a b 128).1)) 0 0 (fun _ => False) := by
  refine p0_met (cc := cX10_commonDivisor) (maxL := 11) (ret := (some .long)) (by decide) rfl (Nat.le_of_ble_eq_true rfl) ?_
  intro p e s m below meth c0 hx hb hr hml hown hlocks hnm hts hN ls hl
  have hl : lv_has ls 11 [(0, .long a), (2, .long b)] := hl
  generalize hQ : MQ _ _ _ _ _ _ _ = Q
  refine lv_lload_n hx hb dX10_commonDivisor_0 rfl (lv_at hl 0 rfl) ?_
  refine lv_lstore (lv' := [(4, .long a), (0, .long a), (2, .long b)]) hx hb dX10_commonDivisor_1 hl (by decide) rfl (fun ls hl => ?_)
  refine lv_lload_n hx hb dX10_commonDivisor_3 rfl (lv_at hl 2 rfl) ?_
  refine lv_lstore (lv' := [(6, .long b), (4, .long a), (0, .long a), (2, .long b)]) hx hb dX10_commonDivisor_4 hl (by decide) rfl (fun ls hl => ?_)
  refine lv_iconst (v := 0) hx hb dX10_commonDivisor_6 (by decide) ?_
  refine lv_istore (lv' := [(8, .int 0), (6, .long b), (4, .long a), (0, .long a), (2, .long b)]) hx hb dX10_commonDivisor_7 hl (by decide) rfl (fun ls hl => ?_)
  have loop9 : ∀ (ni9 i9 : Nat) (x9 : Int64) (y9 : Int64) (ls : Array Slot), i9 ≤ 128 → 128 + 1 ≤ i9 + ni9 → x9 = (gpr a b i9).1 → y9 = (gpr a b i9).2 → lv_has ls 11 [(8, .int (nI i9)), (6, .long y9), (4, .long x9), (0, .long a), (2, .long b)] → W p l e ({ frames := 0, cells := 0, slots := 0, locals := 0 } : Room) s m ([.long a, .long b] : List Value).toArray below meth c0 s.heap [] 0 0 Q (F0 m 9 ls []) := by
    intro ni9
    induction ni9 with
    | zero =>
      intro i9 x9 y9 ls h1 h2
      exact absurd h2 (by omega)
    | succ ni9 ihi9 =>
      intro i9 x9 y9 ls hlei9 hni9 hx9 hy9 hl
      refine lv_iload hx hb dX10_commonDivisor_9 (lv_at hl 0 rfl) ?_
      refine lv_sipush (v := 128) hx hb dX10_commonDivisor_11 (by decide) ?_
      refine lv_icmp_ge (tgt := 45) hx hb dX10_commonDivisor_14 (by decide) (fun c1 => ?_) (fun c1 => ?_)
      · skip
        have hei9 : i9 = 128 := (by have q := (nI_leI (a := 128) (b := i9) (by omega) (by omega)).mp c1; omega)
        refine lv_lload hx hb dX10_commonDivisor_45 (lv_at hl 2 rfl) ?_
        subst hQ
        exact W.lret (v := x9) hx hb hr (fun t ht hW => ⟨x9, rfl, (by rw [hx9, hei9]), ht⟩) (fun q h => absurd h List.not_mem_nil) dX10_commonDivisor_47
      · skip
        have hlti9 : i9 < 128 := (Nat.lt_or_ge i9 128).elim id (fun q => absurd (show nI 128 ≤ nI i9 from nI_le q (by omega)) c1)
        refine lv_lload hx hb dX10_commonDivisor_17 (lv_at hl 1 rfl) ?_
        refine lv_lconst (v := 0) hx hb dX10_commonDivisor_19 (by decide) ?_
        refine W.lcmp hx hb dX10_commonDivisor_20 ?_
        refine lv_if_eq (tgt := 45) hx hb dX10_commonDivisor_21 (by decide) (fun c2 => ?_) (fun c2 => ?_)
        · skip
          have c2 := (lg_cmp_eq _ _).mp c2
          refine lv_lload hx hb dX10_commonDivisor_45 (lv_at hl 2 rfl) ?_
          subst hQ
          exact W.lret (v := x9) hx hb hr (fun t ht hW => ⟨x9, rfl, (by rw [hx9]; exact (gpr_stop (hy9 ▸ c2) (by omega)).symm), ht⟩) (fun q h => absurd h List.not_mem_nil) dX10_commonDivisor_47
        · skip
          have c2 := fun h => c2 ((lg_cmp_eq _ _).mpr h)
          refine lv_lload hx hb dX10_commonDivisor_24 (lv_at hl 2 rfl) ?_
          refine lv_lload hx hb dX10_commonDivisor_26 (lv_at hl 1 rfl) ?_
          refine lv_lrem hx hb dX10_commonDivisor_28 c2 ?_
          refine lv_lstore (lv' := [(9, .long (x9 - x9 / y9 * y9)), (8, .int (nI i9)), (6, .long y9), (4, .long x9), (0, .long a), (2, .long b)]) hx hb dX10_commonDivisor_29 hl (by decide) rfl (fun ls hl => ?_)
          refine lv_lload hx hb dX10_commonDivisor_31 (lv_at hl 2 rfl) ?_
          refine lv_lstore (lv' := [(4, .long y9), (9, .long (x9 - x9 / y9 * y9)), (8, .int (nI i9)), (6, .long y9), (0, .long a), (2, .long b)]) hx hb dX10_commonDivisor_33 hl (by decide) rfl (fun ls hl => ?_)
          refine lv_lload hx hb dX10_commonDivisor_35 (lv_at hl 1 rfl) ?_
          refine lv_lstore (lv' := [(6, .long (x9 - x9 / y9 * y9)), (4, .long y9), (9, .long (x9 - x9 / y9 * y9)), (8, .int (nI i9)), (0, .long a), (2, .long b)]) hx hb dX10_commonDivisor_37 hl (by decide) rfl (fun ls hl => ?_)
          refine lv_iinc (v := nI (i9 + 1)) (lv' := [(8, .int (nI (i9 + 1))), (6, .long (x9 - x9 / y9 * y9)), (4, .long y9), (9, .long (x9 - x9 / y9 * y9)), (0, .long a), (2, .long b)]) hx hb dX10_commonDivisor_39 hl (k := 3) rfl (nI_1 i9) (by decide) rfl (fun ls hl => ?_)
          refine lv_goto (tgt := 9) hx hb dX10_commonDivisor_42 (by decide) ?_
          exact ihi9 (i9 + 1) y9 (x9 - x9 / y9 * y9) ls (by omega) (by omega) (by rw [gpr, if_neg (hy9 ▸ c2)]; exact hy9) (by rw [gpr, if_neg (hy9 ▸ c2), ← hx9, ← hy9]) (lv_sub hl [0, 1, 2, 4, 5] rfl)
  exact loop9 (128 + 1 - 0) 0 a b ls (by omega) (by omega) rfl rfl (lv_sub hl [0, 1, 2, 3, 4] rfl)
