theorem gpr_step {a b x y : Int64} (h : ∃ n, x = (gpr a b n).1 ∧ y = (gpr a b n).2) (hy : ¬ y = 0) : ∃ n, y = (gpr a b n).1 ∧ x - x / y * y = (gpr a b n).2 := by
  obtain ⟨n, rfl, rfl⟩ := h
  exact ⟨n + 1, by rw [gpr, if_neg hy], by rw [gpr, if_neg hy]⟩
theorem lrem_lt {x y : Int64} (hy : ¬ y = 0) : (x - x / y * y).toInt.natAbs < y.toInt.natAbs := by
  have hb : y.toInt ≠ 0 := fun q => hy (Int64.toInt_inj.mp (q.trans (by decide)))
  have h1 : (x - x / y * y).toInt = (x.toInt - x.toInt.tdiv y.toInt * y.toInt).bmod (2 ^ 64) := by
    rw [Int64.toInt_sub, Int64.toInt_mul, Int64.toInt_div]
    simp
  have h2 : x.toInt - x.toInt.tdiv y.toInt * y.toInt = x.toInt.tmod y.toInt := by
    have := Int.tmod_add_mul_tdiv x.toInt y.toInt
    rw [Int.mul_comm] at this
    omega
  have h3 : (x.toInt.tmod y.toInt).natAbs < y.toInt.natAbs := by
    rw [Int.natAbs_tmod]
    exact Nat.mod_lt _ (Int.natAbs_pos.mpr hb)
  have h4 := Int64.toInt_lt y
  have h5 := Int64.le_toInt y
  rw [h1, h2, Int.bmod_eq_of_le (by omega) (by omega)]
  exact h3
def rkU (z : RS2) (g : Int32) : Nat → Int64
  | 0 => 0
  | t + 1 => if rs_I z 25 t = g ∧ ¬ rs_I z 28 t = 0 ∧ 0 < rs_L z 29 t + rs_L z 30 t then rkU z g t + (rs_L z 29 t + rs_L z 30 t) * 2 * wsum (rs_I z 35) (rs_I z 36) (rs_I z 37) (nI t) (rs_n z 3) else rkU z g t
def rkD (z : RS2) (g : Int32) : Nat → Int64
  | 0 => 0
  | t + 1 => if rs_I z 25 t = g ∧ ¬ rs_I z 28 t = 0 ∧ 0 < rs_L z 29 t + rs_L z 30 t then rkD z g t + (rs_L z 29 t + rs_L z 30 t) * (rs_L z 29 t + rs_L z 30 t) else rkD z g t
theorem gpr_nz {a b r : Int64} (ha : ¬ a = 0) (h : ∃ n, (gpr a b n).2 = 0 ∧ r = (gpr a b n).1) : ¬ r = 0 := by
  obtain ⟨n, _, rfl⟩ := h
  induction n with
  | zero => exact ha
  | succ n ih =>
    rw [gpr]
    by_cases h : (gpr a b n).2 = 0
    · rw [if_pos h]; exact ih h
    · rw [if_neg h]; exact h
set_option maxHeartbeats 4000000 in
set_option maxRecDepth 100000 in
theorem r_common (l : Launch) (a : Int64) (b : Int64)  : Met l yX11_common wsX11_common ({ frames := 0, cells := 0, slots := 0, locals := 0 }) (p0 [.long a, .long b]) (vp_Sl (fun r => ∃ n, (gpr a b n).2 = 0 ∧ r = (gpr a b n).1)) 0 0 (fun _ => False) := by
  refine p0_met (cc := cX11_common) (maxL := 10) (ret := (some .long)) (by decide) rfl (Nat.le_of_ble_eq_true rfl) ?_
  intro p e s m below meth c0 hx hb hr hml hown hlocks hnm hts hN ls hl
  have hl : lv_has ls 10 [(0, .long a), (2, .long b)] := hl
  generalize hQ : MQ _ _ _ _ _ _ _ = Q
  refine lv_lload_n hx hb dX11_common_0 rfl (lv_at hl 0 rfl) ?_
  refine lv_lstore (lv' := [(4, .long a), (0, .long a), (2, .long b)]) hx hb dX11_common_1 hl (by decide) rfl (fun ls hl => ?_)
  refine lv_lload_n hx hb dX11_common_3 rfl (lv_at hl 2 rfl) ?_
  refine lv_lstore (lv' := [(6, .long b), (4, .long a), (0, .long a), (2, .long b)]) hx hb dX11_common_4 hl (by decide) rfl (fun ls hl => ?_)
  have loop6 : ∀ (ni6 : Nat) (x9 : Int64) (y9 : Int64) (ls : Array Slot), y9.toInt.natAbs < ni6 → (∃ n, x9 = (gpr a b n).1 ∧ y9 = (gpr a b n).2) → lv_has ls 10 [(6, .long y9), (4, .long x9), (0, .long a), (2, .long b)] → W p l e ({ frames := 0, cells := 0, slots := 0, locals := 0 } : Room) s m ([.long a, .long b] : List Value).toArray below meth c0 s.heap [] 0 0 Q (F0 m 6 ls []) := by
    intro ni6
    induction ni6 with
    | zero =>
      intro x9 y9 ls h1
      exact absurd h1 (Nat.not_lt_zero _)
    | succ ni6 ihi6 =>
      intro x9 y9 ls hfi6 hxy hl
      refine lv_lload hx hb dX11_common_6 (lv_at hl 0 rfl) ?_
      refine lv_lconst (v := 0) hx hb dX11_common_8 (by decide) ?_
      refine W.lcmp hx hb dX11_common_9 ?_
      refine lv_if_eq (tgt := 31) hx hb dX11_common_10 (by decide) (fun c1 => ?_) (fun c1 => ?_)
      · skip
        have c1 := (lg_cmp_eq _ _).mp c1
        refine lv_lload hx hb dX11_common_31 (lv_at hl 1 rfl) ?_
        subst hQ
        exact W.lret (v := x9) hx hb hr (fun t ht hW => ⟨x9, rfl, (hxy.imp (fun n q => ⟨q.2.symm.trans c1, q.1⟩)), ht⟩) (fun q h => absurd h List.not_mem_nil) dX11_common_33
      · skip
        have c1 := fun h => c1 ((lg_cmp_eq _ _).mpr h)
        refine lv_lload hx hb dX11_common_13 (lv_at hl 1 rfl) ?_
        refine lv_lload hx hb dX11_common_15 (lv_at hl 0 rfl) ?_
        refine lv_lrem hx hb dX11_common_17 c1 ?_
        refine lv_lstore (lv' := [(8, .long (x9 - x9 / y9 * y9)), (6, .long y9), (4, .long x9), (0, .long a), (2, .long b)]) hx hb dX11_common_18 hl (by decide) rfl (fun ls hl => ?_)
        refine lv_lload hx hb dX11_common_20 (lv_at hl 1 rfl) ?_
        refine lv_lstore (lv' := [(4, .long y9), (8, .long (x9 - x9 / y9 * y9)), (6, .long y9), (0, .long a), (2, .long b)]) hx hb dX11_common_22 hl (by decide) rfl (fun ls hl => ?_)
        refine lv_lload hx hb dX11_common_24 (lv_at hl 1 rfl) ?_
        refine lv_lstore (lv' := [(6, .long (x9 - x9 / y9 * y9)), (4, .long y9), (8, .long (x9 - x9 / y9 * y9)), (0, .long a), (2, .long b)]) hx hb dX11_common_26 hl (by decide) rfl (fun ls hl => ?_)
        refine lv_goto (tgt := 6) hx hb dX11_common_28 (by decide) ?_
        exact ihi6 y9 (x9 - x9 / y9 * y9) ls (Nat.lt_of_lt_of_le (lrem_lt c1) (Nat.le_of_lt_succ hfi6)) (gpr_step hxy c1) (lv_sub hl [0, 1, 3, 4] rfl)
  exact loop6 (b.toInt.natAbs + 1) a b ls (Nat.lt_succ_self _) ⟨0, rfl, rfl⟩ (lv_sub hl [0, 1, 2, 3] rfl)
