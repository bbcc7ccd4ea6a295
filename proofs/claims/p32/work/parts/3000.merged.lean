/-! our own base: the four links between nest mates, one form of a contract's start, one form of its world behind -/
def nst (U : State) : Prop := (va_Nw (.methodLinkNest RX3 34 yX10_isWithin RX10) U ∧ va_Nw (.methodLinkNest RX7 19 yX10_isWithin RX10) U ∧ va_Nw (.methodLinkNest RX10 44 yX7_init RX10) U ∧ va_Nw (.methodLinkNest RX10 51 yX9_init RX10) U) ∧ (va_AO RX6 U ∧ va_AO RX2 U ∧ va_AO RX8 U ∧ va_AO RX5 U ∧ va_AO RX7 U) ∧ va_Nw (.castable RX1 RX2) U ∧ va_Nw (.castable RX4 RX2) U ∧ va_Nw (.castable RX4 RX1) U ∧ va_Nc RX1 RX4 U ∧ va_Nc RX2 RX1 U ∧ va_Nc RX2 RX4 U
theorem nst_same {u U : State} (h : u.vm = U.vm) (hN : nst u) : nst U := by
  have hA : u.vm.Alike U.vm := by rw [h]; exact Vm.Alike.refl _
  exact ⟨⟨va_Nw.same rfl h hN.1.1, va_Nw.same rfl h hN.1.2.1, va_Nw.same rfl h hN.1.2.2.1, va_Nw.same rfl h hN.1.2.2.2⟩, ⟨va_AO.moved hA hN.2.1.1, va_AO.moved hA hN.2.1.2.1, va_AO.moved hA hN.2.1.2.2.1, va_AO.moved hA hN.2.1.2.2.2.1, va_AO.moved hA hN.2.1.2.2.2.2⟩, va_Nw.same rfl h hN.2.2.1, va_Nw.same rfl h hN.2.2.2.1, va_Nw.same rfl h hN.2.2.2.2.1, va_Nc.moved hA hN.2.2.2.2.2.1, va_Nc.moved hA hN.2.2.2.2.2.2.1, va_Nc.moved hA hN.2.2.2.2.2.2.2⟩
theorem nst_warm {s U : State} (hW : s.WarmedH U.vm) (hN : nst s) : nst U :=
  ⟨⟨va_Nw.warmM hW hN.1.1, va_Nw.warmM hW hN.1.2.1, va_Nw.warmM hW hN.1.2.2.1, va_Nw.warmM hW hN.1.2.2.2⟩, ⟨va_AO.moved hW.alike hN.2.1.1, va_AO.moved hW.alike hN.2.1.2.1, va_AO.moved hW.alike hN.2.1.2.2.1, va_AO.moved hW.alike hN.2.1.2.2.2.1, va_AO.moved hW.alike hN.2.1.2.2.2.2⟩, va_Nw.warmC hW hN.2.2.1, va_Nw.warmC hW hN.2.2.2.1, va_Nw.warmC hW hN.2.2.2.2.1, va_Nc.moved hW.alike hN.2.2.2.2.2.1, va_Nc.moved hW.alike hN.2.2.2.2.2.2.1, va_Nc.moved hW.alike hN.2.2.2.2.2.2.2⟩
def pw (D : va_G) (tys : List (ClassId × FieldType)) (ws : va_W) (sz : Nat) (av : List Value) : Array Value → State → Prop := va_Pc av (fun U => U.heap.size = sz ∧ va_P D vwCl ws U.heap ∧ va_K D vwCl tys U ∧ va_D (fun _ => True) ws ∧ nst U)
theorem pw_blind {D : va_G} {tys : List (ClassId × FieldType)} {ws : va_W} {sz : Nat} {av : List Value} : FrameBlind (pw D tys ws sz av) := fun a U g mk q => by
  obtain ⟨q0, q1, qP, qK, qD, qN⟩ := q
  exact ⟨q0, q1, qP, va_K.moved (u := U) (U := U.calling g mk a) (Vm.Alike.refl U.vm) qK, qD, nst_same (u := U) (U := U.calling g mk a) rfl qN⟩
theorem pw_preS {s : State} {H : Heap} {D : va_G} {tys : List (ClassId × FieldType)} {ws : va_W} {A : Nat → Prop} {av : List Value} (hP : va_P D vwCl ws H) (hK : va_K D vwCl tys s) (hD : va_D A ws) (hN : nst s) : PreS s H (pw D tys ws H.size av) av :=
  ⟨pw_blind, fun U hU hW => ⟨rfl, by rw [hU], by rw [hU]; exact hP, va_K.moved hW.alike hK, hD.weaken (fun _ _ _ _ => trivial), nst_warm hW hN⟩⟩
theorem pw_preV {s : State} {H : Heap} {D : va_G} {tys : List (ClassId × FieldType)} {ws : va_W} {A : Nat → Prop} {C : String} {b : Addr} {As : List Value} (hr : ∃ cellB : Cell, H[b]? = some cellB ∧ cellB.vm.isStatics = false ∧ s.vm.findClass C = some cellB.cls) (hP : va_P D vwCl ws H) (hK : va_K D vwCl tys s) (hD : va_D A ws) (hN : nst s) : PreV s H C b (pw D tys ws H.size (.ref b :: As)) As :=
  ⟨pw_blind, hr, fun U hU hW => ⟨rfl, by rw [hU], by rw [hU]; exact hP, va_K.moved hW.alike hK, hD.weaken (fun _ _ _ _ => trivial), nst_warm hW hN⟩⟩
/-- a contract's preamble, once for all -/
theorem pw_met {l : Launch} {y : MethodName} {ws0 ws' : List Cond} {rm : Room} {D : va_G} {tys : List (ClassId × FieldType)} {ws : va_W} {sz : Nat} {av : List Value} {Qc : Array Value → State → Outcome → State → Prop} {mc ms : Nat} {free : Addr → Prop} {cc : ByteArray} {maxL : Nat} {ret : Option FieldType}
    (hy : plainName y.cls = true) (hw : ws0 = Cond.code y cc maxL ret :: ws') (hlen : (lg_sl av).length ≤ maxL)
    (body : ∀ (p : Program) (e : Env) (s : State) (m : MethodId) (below : List Frame) (meth : Method) (c : Code), p.tables.exec = Jvm.exec → c.code = cc → meth.sig.returnType = ret → c.maxLocals = maxL → s.vm.findClass y.cls = some m.cls → meth.locks = false → meth.name = y.name → (∀ w ∈ ws0, w.before av.toArray s = true) → va_P D vwCl ws s.heap → va_K D vwCl tys s → va_D (va_A ws s.heap.size) ws → nst s → s.heap.size = sz → (∀ q : Nat, s.heap.size ≤ q → va_A ws s.heap.size q) → va_S (va_A ws s.heap.size) s.heap s.heap [] → ∀ ls : Array Slot, lv_has ls maxL (lv_args 0 av) →
      W p l e rm s m av.toArray below meth c s.heap [] 0 0 (MQ below Qc av.toArray s mc ms free) (F0 m 0 ls [])) : Met l y ws0 rm (pw D tys ws sz av) Qc mc ms free := by
  refine Met.ofW (cc := cc) (maxL := maxL) (ret := ret) hy hw ?_
  intro p e s m args below meth c s₁ B hml hv
  obtain ⟨rfl, hsz, hP, hK, hD0, hN⟩ := hv
  have hts := atoms_spec (ws := ws0) B.pre
  have hown : s.vm.findClass y.cls = some m.cls := findClass_of_methodNamed B.named
  have hl := lv_entry av (n := maxL) hlen
  rw [lg_entry_eq]
  generalize (lg_sl av ++ List.replicate (maxL - (lg_sl av).length) Slot.unset).toArray = ls at hl ⊢
  exact body p e s m below meth c B.exec B.bytes B.returns hml hown B.notSynchronized (name_of_methodNamed B.named B.method).1 hts hP hK (hD0.self (sz := s.heap.size)) hN hsz (fun q h => Or.inr h) va_S.rf ls hl
/-- the world behind a method -/
def bw (D : va_G) (tys : List (ClassId × FieldType)) (A : Nat → Prop) (ws : va_W) (t : State) : Prop := va_P D vwCl ws t.heap ∧ va_K D vwCl tys t ∧ va_D A ws
/-! plain facts on numbers and arrays, to paste: each family by itself; over the kit's rows on nI and upd -/
/-! ===== order of ints, in all its forms, and through longs ===== -/
theorem fa_lt (a b : Int32) : a < b ↔ a.toInt < b.toInt := Int32.lt_iff_toInt_lt
theorem fa_le (a b : Int32) : a ≤ b ↔ a.toInt ≤ b.toInt := Int32.le_iff_toInt_le
theorem fa_eq (a b : Int32) : a = b ↔ a.toInt = b.toInt := Int32.toInt_inj.symm
theorem fa_lt64 (a b : Int64) : a < b ↔ a.toInt < b.toInt := Int64.lt_iff_toInt_lt
theorem fa_le64 (a b : Int64) : a ≤ b ↔ a.toInt ≤ b.toInt := Int64.le_iff_toInt_le
theorem fa_eq64 (a b : Int64) : a = b ↔ a.toInt = b.toInt := Int64.toInt_inj.symm
/-- a comparison of two ints taken as longs -/
theorem fa_wide_lt (a b : Int32) : a.toInt64 < b.toInt64 ↔ a < b := by rw [fa_lt64, fa_lt, Int32.toInt_toInt64, Int32.toInt_toInt64]
theorem fa_wide_le (a b : Int32) : a.toInt64 ≤ b.toInt64 ↔ a ≤ b := by rw [fa_le64, fa_le, Int32.toInt_toInt64, Int32.toInt_toInt64]
theorem fa_wide_eq (a b : Int32) : a.toInt64 = b.toInt64 ↔ a = b := by rw [fa_eq64, fa_eq, Int32.toInt_toInt64, Int32.toInt_toInt64]
/-- one strict comparison gives all the others -/
theorem fa_of_lt {a b : Int32} (h : a < b) : a ≤ b ∧ ¬ b ≤ a ∧ ¬ b < a ∧ a ≠ b ∧ b ≠ a := by
  rw [fa_lt] at h
  refine ⟨?_, ?_, ?_, ?_, ?_⟩
  · rw [fa_le]; omega
  · rw [fa_le]; omega
  · rw [fa_lt]; omega
  · intro e; rw [fa_eq] at e; omega
  · intro e; rw [fa_eq] at e; omega
theorem fa_of_nlt {a b : Int32} (h : ¬ a < b) : b ≤ a := by
  rw [fa_lt] at h
  rw [fa_le]
  omega
theorem fa_of_nle {a b : Int32} (h : ¬ a ≤ b) : b < a := by
  rw [fa_le] at h
  rw [fa_lt]
  omega
theorem fa_le_ne {a b : Int32} (h : a ≤ b) (h2 : a ≠ b) : a < b := by
  rw [fa_le] at h
  rw [fa_lt]
  have h3 : a.toInt ≠ b.toInt := fun e => h2 ((fa_eq a b).mpr e)
  omega
theorem fa_three (a b : Int32) : a < b ∨ a = b ∨ b < a := by
  rw [fa_lt, fa_lt, fa_eq]
  omega
theorem fa_trans {a b c : Int32} (h : a < b) (h2 : b ≤ c) : a < c := by
  rw [fa_lt] at *
  rw [fa_le] at h2
  omega
/-! ===== small literals as numbers ===== -/
theorem fa_lit (n : Nat) : (OfNat.ofNat n : Int32) = nI n := rfl
theorem fa_litL (n : Nat) : (OfNat.ofNat n : Int64) = lN n := rfl
/-! ===== bits of a number: 'or', masks, one bit ===== -/
theorem fa_and (a b : Nat) : nI a &&& nI b = nI (a &&& b) := by
  apply Int32.toBitVec_inj.1
  show BitVec.ofNat 32 a &&& BitVec.ofNat 32 b = BitVec.ofNat 32 (a &&& b)
  apply BitVec.eq_of_getLsbD_eq
  intro i hi
  simp [hi]
theorem fa_or (a b : Nat) : nI a ||| nI b = nI (a ||| b) := by
  apply Int32.toBitVec_inj.1
  show BitVec.ofNat 32 a ||| BitVec.ofNat 32 b = BitVec.ofNat 32 (a ||| b)
  apply BitVec.eq_of_getLsbD_eq
  intro i hi
  simp [hi]
/-- a remainder by a power of two, as a mask -/
theorem fa_mask (n k : Nat) : nI n &&& nI (2 ^ k - 1) = nI (n % 2 ^ k) := by rw [fa_and, Nat.and_two_pow_sub_one_eq_mod]
/-- 'or' of a high part and a low one that don't meet is their sum -/
theorem fa_or_sum {a k : Nat} (b : Nat) (h : a < 2 ^ k) : nI (2 ^ k * b) ||| nI a = nI (2 ^ k * b + a) := by rw [fa_or, Nat.two_pow_add_eq_or_of_lt h]
/-- one bit, by 'and' with a power of two -/
theorem fa_bit {n j : Nat} (hj : j < 31) : nI n &&& nI (2 ^ j) = 0 ↔ n.testBit j = false := by
  have h2 : (2 : Nat) ^ j < 2 ^ 31 := Nat.pow_lt_pow_right (by decide) hj
  have hle : n &&& 2 ^ j ≤ 2 ^ j := Nat.and_le_right
  have e : n &&& 2 ^ j = 0 ↔ n.testBit j = false := by
    constructor
    · intro h
      have h1 : (n &&& 2 ^ j).testBit j = false := by rw [h]; simp
      rw [Nat.testBit_and] at h1
      first | simpa using h1 | simpa [Nat.testBit_two_pow_self] using h1 | simpa [Nat.testBit_two_pow] using h1
    · intro h
      apply Nat.eq_of_testBit_eq
      intro i
      rw [Nat.testBit_and]
      by_cases hi : j = i
      · subst hi; simp [h]
      · first | (simp [Nat.testBit_two_pow, hi]; done) | (simp [Nat.testBit_two_pow_of_ne hi]; done)
  rw [fa_and]
  constructor
  · intro h
    apply e.mp
    rcases Nat.eq_zero_or_pos (n &&& 2 ^ j) with z | z
    · exact z
    · exact absurd h (nI_ne0 z (Nat.lt_of_le_of_lt hle h2))
  · intro h
    rw [e.mpr h]; exact nI_0
/-- a remainder by a power of two of a number that isn't negative, as Java divides -/
theorem fa_rem {a k : Nat} (ha : a < 2 ^ 31) (hk : k < 31) : nI a - nI a / nI (2 ^ k) * nI (2 ^ k) = nI (a % 2 ^ k) := pk_rem ha (Nat.two_pow_pos k) (Nat.pow_lt_pow_right (by decide) hk)
/-! ===== cuts to a byte, a short ===== -/
theorem fa_byte_xor (x y : Int32) : (x ^^^ y).toInt8 = x.toInt8 ^^^ y.toInt8 := by
  apply Int8.toBitVec_inj.1
  apply BitVec.eq_of_getLsbD_eq
  intro i hi
  first | (simp [hi]; done) | (simp [hi, BitVec.getLsbD_setWidth, BitVec.getLsbD_signExtend]; done)
theorem fa_short_xor (x y : Int32) : (x ^^^ y).toInt16 = x.toInt16 ^^^ y.toInt16 := by
  apply Int16.toBitVec_inj.1
  apply BitVec.eq_of_getLsbD_eq
  intro i hi
  first | (simp [hi]; done) | (simp [hi, BitVec.getLsbD_setWidth, BitVec.getLsbD_signExtend]; done)
/-- the cut to a byte sees the low byte alone -/
theorem fa_byte_low (x : Int32) : (x &&& 255).toInt8 = x.toInt8 := by
  apply Int8.toBitVec_inj.1
  apply BitVec.eq_of_getLsbD_eq
  intro i hi
  have h2 : (255 : Int32).toBitVec.getLsbD i = true := by
    have : ∀ j : Fin 8, (255 : Int32).toBitVec.getLsbD j.val = true := by decide +kernel
    exact this ⟨i, hi⟩
  have h4 : (x &&& 255).toBitVec.getLsbD i = x.toBitVec.getLsbD i := by
    show (x.toBitVec &&& (255 : Int32).toBitVec).getLsbD i = _
    rw [BitVec.getLsbD_and, h2, Bool.and_true]
  have h3 : i < 32 := by omega
  first
    | (show (((x &&& 255).toBitVec).signExtend 8).getLsbD i = (x.toBitVec.signExtend 8).getLsbD i; rw [BitVec.getLsbD_signExtend, BitVec.getLsbD_signExtend, if_pos h3, if_pos h3, h4])
    | (show (((x &&& 255).toBitVec).setWidth 8).getLsbD i = (x.toBitVec.setWidth 8).getLsbD i; rw [BitVec.getLsbD_setWidth, BitVec.getLsbD_setWidth, h4])
    | (simp [hi, h3, h4]; done)
theorem fa_short_low (x : Int32) : (x &&& 65535).toInt16 = x.toInt16 := by
  apply Int16.toBitVec_inj.1
  apply BitVec.eq_of_getLsbD_eq
  intro i hi
  have h2 : (65535 : Int32).toBitVec.getLsbD i = true := by
    have : ∀ j : Fin 16, (65535 : Int32).toBitVec.getLsbD j.val = true := by decide +kernel
    exact this ⟨i, hi⟩
  have h4 : (x &&& 65535).toBitVec.getLsbD i = x.toBitVec.getLsbD i := by
    show (x.toBitVec &&& (65535 : Int32).toBitVec).getLsbD i = _
    rw [BitVec.getLsbD_and, h2, Bool.and_true]
  have h3 : i < 32 := by omega
  first
    | (show (((x &&& 65535).toBitVec).signExtend 16).getLsbD i = (x.toBitVec.signExtend 16).getLsbD i; rw [BitVec.getLsbD_signExtend, BitVec.getLsbD_signExtend, if_pos h3, if_pos h3, h4])
    | (show (((x &&& 65535).toBitVec).setWidth 16).getLsbD i = (x.toBitVec.setWidth 16).getLsbD i; rw [BitVec.getLsbD_setWidth, BitVec.getLsbD_setWidth, h4])
    | (simp [hi, h3, h4]; done)
/-- a small number is its own byte, its own short -/
theorem fa_byte_small {n : Nat} (h : n < 128) : (nI n).toInt8.toInt32 = nI n := by
  have : ∀ j : Fin 128, (nI j.val).toInt8.toInt32 = nI j.val := by decide +kernel
  exact this ⟨n, h⟩
/-! ===== absolute difference ===== -/
theorem fa_absdiff {a b : Nat} (ha : a < 2 ^ 31) (hb : b < 2 ^ 31) : (if nI a < nI b then nI b - nI a else nI a - nI b) = nI (if a < b then b - a else a - b) := by
  by_cases h : a < b
  · rw [if_pos (nI_lt h hb), if_pos h]
    exact pk_sub (Nat.le_of_lt h)
  · rw [if_neg (nI_nlt (Nat.le_of_not_lt h) ha), if_neg h]
    exact pk_sub (Nat.le_of_not_lt h)
/-! ===== an array behind i stores, a conditional store, a row copied ===== -/
/-- f where k < i, what stood there else -/
def fa_fill {α : Type} (f g : Nat → α) (i : Nat) : Nat → α := fun k => if k < i then f k else g k
theorem fa_fill_0 {α : Type} (f g : Nat → α) : fa_fill f g 0 = g := funext fun k => if_neg (Nat.not_lt_zero k)
theorem fa_fill_in {α : Type} {f g : Nat → α} {i k : Nat} (h : k < i) : fa_fill f g i k = f k := if_pos h
theorem fa_fill_out {α : Type} {f g : Nat → α} {i k : Nat} (h : i ≤ k) : fa_fill f g i k = g k := if_neg (Nat.not_lt.mpr h)
theorem fa_fill_succ (f g : Nat → Int32) (i : Nat) : upd (fa_fill f g i) i (f i) = fa_fill f g (i + 1) := by
  funext k
  by_cases e : k = i
  · subst e
    rw [pk_us]
    exact (if_pos (Nat.lt_succ_self k)).symm
  · rw [pk_un e]
    by_cases h : k < i
    · rw [fa_fill_in h, fa_fill_in (Nat.lt_succ_of_lt h)]
    · rw [fa_fill_out (Nat.le_of_not_lt h), fa_fill_out (by omega)]
/-- a store that changes nothing -/
theorem fa_upd_same {f : Nat → Int32} {i : Nat} {x : Int32} (h : f i = x) : upd f i x = f := by
  funext k
  by_cases e : k = i
  · subst e
    rw [pk_us, h]
  · rw [pk_un e]
/-- a store under a condition, told as one -/
theorem fa_upd_if (c : Prop) [Decidable c] (f : Nat → Int32) (i : Nat) (x : Int32) : (if c then upd f i x else f) = upd f i (if c then x else f i) := by
  by_cases h : c
  · rw [if_pos h, if_pos h]
  · rw [if_neg h, if_neg h, fa_upd_same rfl]
/-- two stores at one place, at two -/
theorem fa_upd_twice (f : Nat → Int32) (i : Nat) (x y : Int32) : upd (upd f i x) i y = upd f i y := by
  funext k
  by_cases e : k = i
  · subst e
    rw [pk_us, pk_us]
  · rw [pk_un e, pk_un e, pk_un e]
theorem fa_upd_swap (f : Nat → Int32) {i j : Nat} (h : i ≠ j) (x y : Int32) : upd (upd f i x) j y = upd (upd f j y) i x := by
  funext k
  by_cases e : k = i
  · subst e
    rw [pk_un h, pk_us, pk_us]
  · by_cases e2 : k = j
    · subst e2
      rw [pk_us, pk_un e, pk_us]
    · rw [pk_un e2, pk_un e, pk_un e, pk_un e2]
/-! ===== the first index with a property; a count ===== -/
/-- the first k < n with p k, n if there is none -/
def fa_first (p : Nat → Bool) : Nat → Nat
  | 0 => 0
  | n + 1 => if fa_first p n < n then fa_first p n else if p n then n else n + 1
theorem fa_first_le (p : Nat → Bool) : ∀ n, fa_first p n ≤ n
  | 0 => Nat.le_refl 0
  | n + 1 => by
    have ih := fa_first_le p n
    unfold fa_first
    split
    · omega
    · split
      · omega
      · omega
theorem fa_first_no (p : Nat → Bool) : ∀ n k, k < fa_first p n → p k = false
  | 0, k, h => absurd h (Nat.not_lt_zero k)
  | n + 1, k, h => by
    have ih := fa_first_no p n
    have hl := fa_first_le p n
    unfold fa_first at h
    split at h
    · exact ih k h
    · rename_i h1
      split at h
      · exact ih k (by omega)
      · rename_i h2
        by_cases e : k = n
        · subst e
          exact Bool.eq_false_iff.mpr h2
        · exact ih k (by omega)
theorem fa_first_yes (p : Nat → Bool) : ∀ n, fa_first p n < n → p (fa_first p n) = true
  | 0, h => absurd h (Nat.not_lt_zero _)
  | n + 1, h => by
    have ih := fa_first_yes p n
    have hl := fa_first_le p n
    unfold fa_first at h ⊢
    split at h
    · rename_i h1
      rw [if_pos h1]
      exact ih h1
    · rename_i h1
      rw [if_neg h1]
      split at h
      · rename_i h2
        rw [if_pos h2]
        exact h2
      · omega
/-- how many k < n have p k -/
def fa_cnt (p : Nat → Bool) : Nat → Nat
  | 0 => 0
  | n + 1 => fa_cnt p n + if p n then 1 else 0
theorem fa_cnt_le (p : Nat → Bool) : ∀ n, fa_cnt p n ≤ n
  | 0 => Nat.le_refl 0
  | n + 1 => by
    have ih := fa_cnt_le p n
    unfold fa_cnt
    split
    · omega
    · omega
theorem fa_cnt_yes {p : Nat → Bool} {n : Nat} (h : p n = true) : fa_cnt p (n + 1) = fa_cnt p n + 1 := by rw [fa_cnt, if_pos h]
theorem fa_cnt_no {p : Nat → Bool} {n : Nat} (h : p n = false) : fa_cnt p (n + 1) = fa_cnt p n := by rw [fa_cnt, if_neg (by rw [h]; decide)]; rfl
theorem fa_cnt_cong {p q : Nat → Bool} : ∀ {n : Nat}, (∀ k, k < n → p k = q k) → fa_cnt p n = fa_cnt q n
  | 0, _ => rfl
  | n + 1, h => by rw [fa_cnt, fa_cnt, fa_cnt_cong (fun k hk => h k (Nat.lt_succ_of_lt hk)), h n (Nat.lt_succ_self n)]
/-! ===== an answer carried into a post; a branch on a boolean answer ===== -/
theorem fa_post {α : Type} {P : α → Prop} {x y : α} (h : x = y) (hp : P y) : P x := h ▸ hp
theorem fa_post2 {α β : Type} {P : α → β → Prop} {x y : α} {u v : β} (h : x = y) (h2 : u = v) (hp : P y v) : P x u := h ▸ h2 ▸ hp
theorem fa_bool {r : Int32} {b : Bool} (h : r = if b then 1 else 0) : (r = 0 ↔ b = false) ∧ (¬ r = 0 ↔ b = true) := by
  subst h
  cases b
  · exact ⟨⟨fun _ => rfl, fun _ => rfl⟩, ⟨fun h => absurd rfl h, fun h => absurd h (by decide)⟩⟩
  · exact ⟨⟨fun h => absurd h (by decide), fun h => absurd h (by decide)⟩, ⟨fun _ => rfl, fun _ => by decide⟩⟩
/-- a boolean's narrowing changes nothing -/
theorem fa_bool_and {r : Int32} (h : r = 0 ∨ r = 1) : r &&& 1 = r := by
  rcases h with rfl | rfl
  · decide
  · decide
theorem fa_bool_prop {c : Prop} [Decidable c] {r : Int32} (h : r = if c then 1 else 0) : (r = 0 ↔ ¬ c) ∧ (¬ r = 0 ↔ c) := by
  subst h
  by_cases hc : c
  · rw [if_pos hc]
    exact ⟨⟨fun h => absurd h (by decide), fun h => absurd hc h⟩, ⟨fun _ => hc, fun _ => by decide⟩⟩
  · rw [if_neg hc]
    exact ⟨⟨fun _ => hc, fun _ => rfl⟩, ⟨fun h => absurd rfl h, fun h => absurd h hc⟩⟩
/-- a contract's start that asks nothing of the heap -/
def p0 (av : List Value) : Array Value → State → Prop := fun v U => v = av.toArray ∧ nst U
theorem p0_preS {s : State} {H : Heap} {av : List Value} (hN : nst s) : PreS s H (p0 av) av :=
  ⟨fun a U g mk q => ⟨q.1, nst_same (u := U) (U := U.calling g mk a) rfl q.2⟩, fun U hU hW => ⟨rfl, nst_warm hW hN⟩⟩
theorem p0_met {l : Launch} {y : MethodName} {ws0 ws' : List Cond} {rm : Room} {av : List Value} {Qc : Array Value → State → Outcome → State → Prop} {mc ms : Nat} {free : Addr → Prop} {cc : ByteArray} {maxL : Nat} {ret : Option FieldType}
    (hy : plainName y.cls = true) (hw : ws0 = Cond.code y cc maxL ret :: ws') (hlen : (lg_sl av).length ≤ maxL)
    (body : ∀ (p : Program) (e : Env) (s : State) (m : MethodId) (below : List Frame) (meth : Method) (c : Code), p.tables.exec = Jvm.exec → c.code = cc → meth.sig.returnType = ret → c.maxLocals = maxL → s.vm.findClass y.cls = some m.cls → meth.locks = false → meth.name = y.name → (∀ w ∈ ws0, w.before av.toArray s = true) → nst s → ∀ ls : Array Slot, lv_has ls maxL (lv_args 0 av) →
      W p l e rm s m av.toArray below meth c s.heap [] 0 0 (MQ below Qc av.toArray s mc ms free) (F0 m 0 ls [])) : Met l y ws0 rm (p0 av) Qc mc ms free := by
  refine Met.ofW (cc := cc) (maxL := maxL) (ret := ret) hy hw ?_
  intro p e s m args below meth c s₁ B hml hv
  obtain ⟨rfl, hN⟩ := hv
  have hts := atoms_spec (ws := ws0) B.pre
  have hown : s.vm.findClass y.cls = some m.cls := findClass_of_methodNamed B.named
  have hl := lv_entry av (n := maxL) hlen
  rw [lg_entry_eq]
  generalize (lg_sl av ++ List.replicate (maxL - (lg_sl av).length) Slot.unset).toArray = ls at hl ⊢
  exact body p e s m below meth c B.exec B.bytes B.returns hml hown B.notSynchronized (name_of_methodNamed B.named B.method).1 hts hN ls hl
/-- two array classes of one kind are one -/
theorem ty_one {D : va_G} {cl : List vw_C} {tys : List (ClassId × FieldType)} {U : State} {cA cB : ClassId} {ty : FieldType} (hK : va_K D cl tys U) (i j : Nat) (h1 : tys[i]? = some (cA, ty)) (h2 : tys[j]? = some (cB, ty)) : cA = cB := by
  have a := (hK.2 i _ h1).2
  have b := (hK.2 j _ h2).2
  cases ty with
  | object C =>
    obtain ⟨_, _, _, _, _, ha⟩ := a
    obtain ⟨_, _, _, _, _, hb⟩ := b
    exact Option.some.inj (ha.symm.trans hb)
  | _ => exact Option.some.inj (Eq.trans (Eq.symm a) b)
/-- an array's contents count below its length alone -/
theorem va_P_cg {D : va_G} {cl : List vw_C} {ws : va_W} {H : Heap} (hP : va_P D cl ws H) (k : Nat) {a n : Nat} {cA : ClassId} {f : Nat → Int32} (g : Nat → Int32) (hk : ws[k]? = some (a, .inl (cA, n, .inl f))) (h : ∀ j, j < n → f j = g j) : va_P D cl (ws.set k (a, .inl (cA, n, .inl g))) H := by
  intro i q hi
  by_cases hik : i = k
  · subst hik
    have hl : i < ws.length := (List.getElem?_eq_some_iff.mp hk).1
    rw [List.getElem?_set_self hl] at hi
    cases hi
    have h0 : H[a]? = some (vp_cell cA (n, .inl f)) := hP i _ hk
    show H[a]? = some (vp_cell cA (n, .inl g))
    rw [h0, vp_cell_i, vp_cell_i]
    congr 1
    unfold arrV
    congr 1
    apply Array.ext'
    apply List.ext_getElem?
    intro j
    by_cases hj : j < n
    · simp [hj, h j hj]
    · simp [hj]
  · rw [List.getElem?_set_ne (fun q => hik q.symm)] at hi
    exact hP i q hi
theorem va_D_cg {A : Nat → Prop} {ws : va_W} (hD : va_D A ws) (k : Nat) {a n : Nat} {cA : ClassId} {f : Nat → Int32} (g : Nat → Int32) (hk : ws[k]? = some (a, .inl (cA, n, .inl f))) : va_D A (ws.set k (a, .inl (cA, n, .inl g))) := hD.set hk
theorem in_w (x a b : Int32) {A B : Int64} (hA : a.toInt64 = A) (hB : b.toInt64 = B) : (if A ≤ x.toInt64 ∧ x.toInt64 ≤ B then (1 : Int32) else 0) = if a ≤ x ∧ x ≤ b then 1 else 0 := by
  subst hA; subst hB
  simp only [fa_wide_le]
set_option maxHeartbeats 4000000 in
set_option maxRecDepth 100000 in
theorem c_X10_isWithin (l : Launch) (a : Int32) (b : Int32) (d : Int32)  : Met l yX10_isWithin wsX10_isWithin ({ frames := 0, cells := 0, slots := 0, locals := 0 }) (p0 [.int a, .int b, .int d]) (vp_Si (fun r => r = if b ≤ a ∧ a ≤ d then 1 else 0)) 0 0 (fun _ => False) := by
  refine p0_met (cc := cX10_isWithin) (maxL := 3) (ret := (some .boolean)) (by decide) rfl (Nat.le_of_ble_eq_true rfl) ?_
  intro p e s m below meth c0 hx hb hr hml hown hlocks hnm hts hN ls hl
  have hl : lv_has ls 3 [(0, .int a), (1, .int b), (2, .int d)] := hl
  refine lv_iload_n hx hb dX10_isWithin_0 rfl (lv_at hl 0 rfl) ?_
  refine lv_iload_n hx hb dX10_isWithin_1 rfl (lv_at hl 1 rfl) ?_
  refine lv_icmp_lt (tgt := 14) hx hb dX10_isWithin_2 (by decide) (fun c1 => ?_) (fun c1 => ?_)
  · skip
    refine lv_iconst (v := 0) hx hb dX10_isWithin_14 (by decide) ?_
    exact W.zret (v := 0) hx hb hr rfl (fun t ht hW => ⟨0, rfl, (by rw [if_neg (fun h => absurd c1 (Int32.not_lt.mpr h.1))]), ht⟩) (fun q h => absurd h List.not_mem_nil) dX10_isWithin_15
  · skip
    refine lv_iload_n hx hb dX10_isWithin_5 rfl (lv_at hl 0 rfl) ?_
    refine lv_iload_n hx hb dX10_isWithin_6 rfl (lv_at hl 2 rfl) ?_
    refine lv_icmp_gt (tgt := 14) hx hb dX10_isWithin_7 (by decide) (fun c2 => ?_) (fun c2 => ?_)
    · skip
      refine lv_iconst (v := 0) hx hb dX10_isWithin_14 (by decide) ?_
      exact W.zret (v := 0) hx hb hr rfl (fun t ht hW => ⟨0, rfl, (by rw [if_neg (fun h => absurd c2 (Int32.not_lt.mpr h.2))]), ht⟩) (fun q h => absurd h List.not_mem_nil) dX10_isWithin_15
    · skip
      refine lv_iconst (v := 1) hx hb dX10_isWithin_10 (by decide) ?_
      refine lv_goto (tgt := 15) hx hb dX10_isWithin_11 (by decide) ?_
      exact W.zret (v := 1) hx hb hr rfl (fun t ht hW => ⟨1, rfl, (by rw [if_pos ⟨Int32.not_lt.mp c1, Int32.not_lt.mp c2⟩]), ht⟩) (fun q h => absurd h List.not_mem_nil) dX10_isWithin_15
set_option maxHeartbeats 4000000 in
set_option maxRecDepth 100000 in
theorem c_X11_in (l : Launch) (a : Int64) (b : Int64) (d : Int64)  : Met l yX11_in wsX11_in ({ frames := 0, cells := 0, slots := 0, locals := 0 }) (p0 [.long a, .long b, .long d]) (vp_Si (fun r => r = if b ≤ a ∧ a ≤ d then 1 else 0)) 0 0 (fun _ => False) := by
  refine p0_met (cc := cX11_in) (maxL := 6) (ret := (some .boolean)) (by decide) rfl (Nat.le_of_ble_eq_true rfl) ?_
  intro p e s m below meth c0 hx hb hr hml hown hlocks hnm hts hN ls hl
  have hl : lv_has ls 6 [(0, .long a), (2, .long b), (4, .long d)] := hl
  refine lv_lload_n hx hb dX11_in_0 rfl (lv_at hl 0 rfl) ?_
  refine lv_lload_n hx hb dX11_in_1 rfl (lv_at hl 1 rfl) ?_
  refine W.lcmp hx hb dX11_in_2 ?_
  refine lv_if_lt (tgt := 17) hx hb dX11_in_3 (by decide) (fun c1 => ?_) (fun c1 => ?_)
  · skip
    have c1 := (lg_cmp_lt _ _).mp c1
    refine lv_iconst (v := 0) hx hb dX11_in_17 (by decide) ?_
    exact W.zret (v := 0) hx hb hr rfl (fun t ht hW => ⟨0, rfl, (by rw [if_neg (fun h => absurd c1 (Int64.not_lt.mpr h.1))]), ht⟩) (fun q h => absurd h List.not_mem_nil) dX11_in_18
  · skip
    have c1 := fun h => c1 ((lg_cmp_lt _ _).mpr h)
    refine lv_lload_n hx hb dX11_in_6 rfl (lv_at hl 0 rfl) ?_
    refine lv_lload hx hb dX11_in_7 (lv_at hl 2 rfl) ?_
    refine W.lcmp hx hb dX11_in_9 ?_
    refine lv_if_gt (tgt := 17) hx hb dX11_in_10 (by decide) (fun c2 => ?_) (fun c2 => ?_)
    · skip
      have c2 := (lg_cmp_gt _ _).mp c2
      refine lv_iconst (v := 0) hx hb dX11_in_17 (by decide) ?_
      exact W.zret (v := 0) hx hb hr rfl (fun t ht hW => ⟨0, rfl, (by rw [if_neg (fun h => absurd c2 (Int64.not_lt.mpr h.2))]), ht⟩) (fun q h => absurd h List.not_mem_nil) dX11_in_18
    · skip
      have c2 := fun h => c2 ((lg_cmp_gt _ _).mpr h)
      refine lv_iconst (v := 1) hx hb dX11_in_13 (by decide) ?_
      refine lv_goto (tgt := 18) hx hb dX11_in_14 (by decide) ?_
      exact W.zret (v := 1) hx hb hr rfl (fun t ht hW => ⟨1, rfl, (by rw [if_pos ⟨Int64.not_lt.mp c1, Int64.not_lt.mp c2⟩]), ht⟩) (fun q h => absurd h List.not_mem_nil) dX11_in_18
set_option maxHeartbeats 4000000 in
set_option maxRecDepth 100000 in
theorem c_X3_hasSquare (l : Launch) (x : Int32) (y : Int32)  : Met l yX3_hasSquare wsX3_hasSquare ({ frames := 1, cells := 0, slots := 0, locals := 30 }) (p0 [.int x, .int y]) (vp_Si (fun r => r = if (0 ≤ x ∧ x ≤ 7) ∧ (0 ≤ y ∧ y ≤ 5) then 1 else 0)) 0 0 (fun _ => False) := by
  refine p0_met (cc := cX3_hasSquare) (maxL := 2) (ret := (some .boolean)) (by decide) rfl (Nat.le_of_ble_eq_true rfl) ?_
  intro p e s m below meth c0 hx hb hr hml hown hlocks hnm hts hN ls hl
  have hl : lv_has ls 2 [(0, .int x), (1, .int y)] := hl
  refine lv_iload_n hx hb dX3_hasSquare_0 rfl (lv_at hl 0 rfl) ?_
  refine lv_iconst (v := 0) hx hb dX3_hasSquare_1 (by decide) ?_
  refine lv_bipush (v := 7) hx hb dX3_hasSquare_2 (by decide) ?_
  refine vp_callSi (va_Run.run (va_runSN (As := [.int x, .int 0, .int 7]) (rest := []) ⟨hx, hb, hml, hown, hts⟩ (c_X10_isWithin l x 0 7 ) (⟨va_cnB 3 hts gX3_hasSquare_X10_isWithin_n34 rfl rfl rfl hN.1.1 (hts (.initialized RX10) (List.mem_of_getElem? (i := 2) rfl)) (by decide +kernel) ⟨Nat.le_of_ble_eq_true rfl, Nat.le_of_ble_eq_true rfl⟩, hts (.static yX10_isWithin) (by decide +kernel), trivial⟩) (p0_preS hN) rfl rfl hl.1 rfl (lv_room (Nat.le_of_ble_eq_true rfl)) dX3_hasSquare_4 ⟨Nat.le_of_ble_eq_true rfl, Nat.le_of_ble_eq_true rfl⟩)) (fun r1 hr1 => ?_)
  have hr1 : r1 = if 0 ≤ x ∧ x ≤ 7 then 1 else 0 := hr1
  refine lv_if_eq (tgt := 23) hx hb dX3_hasSquare_7 (by decide) (fun c2 => ?_) (fun c2 => ?_)
  · skip
    have c2 := (fa_bool_prop hr1).1.mp c2
    refine lv_iconst (v := 0) hx hb dX3_hasSquare_23 (by decide) ?_
    exact W.zret (v := 0) hx hb hr rfl (fun t ht hW => ⟨0, rfl, (by rw [if_neg (fun h => c2 h.1)]), ht⟩) (fun q h => absurd h List.not_mem_nil) dX3_hasSquare_24
  · skip
    have c2 := (fa_bool_prop hr1).2.mp c2
    refine lv_iload_n hx hb dX3_hasSquare_10 rfl (lv_at hl 1 rfl) ?_
    refine lv_iconst (v := 0) hx hb dX3_hasSquare_11 (by decide) ?_
    refine lv_iconst (v := 5) hx hb dX3_hasSquare_12 (by decide) ?_
    refine vp_callSi (va_Run.run (va_runSN (As := [.int y, .int 0, .int 5]) (rest := []) ⟨hx, hb, hml, hown, hts⟩ (c_X10_isWithin l y 0 5 ) (⟨va_cnB 3 hts gX3_hasSquare_X10_isWithin_n34 rfl rfl rfl hN.1.1 (hts (.initialized RX10) (List.mem_of_getElem? (i := 2) rfl)) (by decide +kernel) ⟨Nat.le_of_ble_eq_true rfl, Nat.le_of_ble_eq_true rfl⟩, hts (.static yX10_isWithin) (by decide +kernel), trivial⟩) (p0_preS hN) rfl rfl hl.1 rfl (lv_room (Nat.le_of_ble_eq_true rfl)) dX3_hasSquare_13 ⟨Nat.le_of_ble_eq_true rfl, Nat.le_of_ble_eq_true rfl⟩)) (fun r3 hr3 => ?_)
    have hr3 : r3 = if 0 ≤ y ∧ y ≤ 5 then 1 else 0 := hr3
    refine lv_if_eq (tgt := 23) hx hb dX3_hasSquare_16 (by decide) (fun c4 => ?_) (fun c4 => ?_)
    · skip
      have c4 := (fa_bool_prop hr3).1.mp c4
      refine lv_iconst (v := 0) hx hb dX3_hasSquare_23 (by decide) ?_
      exact W.zret (v := 0) hx hb hr rfl (fun t ht hW => ⟨0, rfl, (by rw [if_neg (fun h => c4 h.2)]), ht⟩) (fun q h => absurd h List.not_mem_nil) dX3_hasSquare_24
    · skip
      have c4 := (fa_bool_prop hr3).2.mp c4
      refine lv_iconst (v := 1) hx hb dX3_hasSquare_19 (by decide) ?_
      refine lv_goto (tgt := 24) hx hb dX3_hasSquare_20 (by decide) ?_
      exact W.zret (v := 1) hx hb hr rfl (fun t ht hW => ⟨1, rfl, (by rw [if_pos ⟨c2, c4⟩]), ht⟩) (fun q h => absurd h List.not_mem_nil) dX3_hasSquare_24
set_option maxHeartbeats 4000000 in
set_option maxRecDepth 100000 in
theorem c_X11_isSquare (l : Launch) (x : Int32) (y : Int32)  : Met l yX11_isSquare wsX11_isSquare ({ frames := 1, cells := 0, slots := 0, locals := 30 }) (p0 [.int x, .int y]) (vp_Si (fun r => r = if (0 ≤ x ∧ x ≤ 7) ∧ (0 ≤ y ∧ y ≤ 5) then 1 else 0)) 0 0 (fun _ => False) := by
  refine p0_met (cc := cX11_isSquare) (maxL := 2) (ret := (some .boolean)) (by decide) rfl (Nat.le_of_ble_eq_true rfl) ?_
  intro p e s m below meth c0 hx hb hr hml hown hlocks hnm hts hN ls hl
  have hl : lv_has ls 2 [(0, .int x), (1, .int y)] := hl
  refine lv_iload_n hx hb dX11_isSquare_0 rfl (lv_at hl 0 rfl) ?_
  refine lv_i2l (v := x.toInt64) hx hb dX11_isSquare_1 rfl ?_
  refine lv_lconst (v := 0) hx hb dX11_isSquare_2 (by decide) ?_
  refine lv_ldc2 (v := 7) hx hb hown (hts (.constantLong RX11 109 (7)) (List.mem_of_getElem? (i := 1) rfl)) dX11_isSquare_3 ?_
  refine vp_callSi (va_Run.run (va_runS (As := [.long x.toInt64, .long 0, .long 7]) (rest := []) ⟨hx, hb, hml, hown, hts⟩ (c_X11_in l x.toInt64 0 7 ) (va_cwS 3 hts gX11_isSquare_X11_in rfl rfl rfl (by decide +kernel) ⟨Nat.le_of_ble_eq_true rfl, Nat.le_of_ble_eq_true rfl⟩) (p0_preS hN) rfl rfl hl.1 rfl (lv_room (Nat.le_of_ble_eq_true rfl)) dX11_isSquare_6 ⟨Nat.le_of_ble_eq_true rfl, Nat.le_of_ble_eq_true rfl⟩)) (fun r1 hr1 => ?_)
  have hr1 : r1 = if 0 ≤ x.toInt64 ∧ x.toInt64 ≤ 7 then 1 else 0 := hr1
  have hr1 := hr1.trans (in_w _ 0 7 (by decide) (by decide))
  refine lv_if_eq (tgt := 28) hx hb dX11_isSquare_9 (by decide) (fun c2 => ?_) (fun c2 => ?_)
  · skip
    have c2 := (fa_bool_prop hr1).1.mp c2
    refine lv_iconst (v := 0) hx hb dX11_isSquare_28 (by decide) ?_
    exact W.zret (v := 0) hx hb hr rfl (fun t ht hW => ⟨0, rfl, (by rw [if_neg (fun h => c2 h.1)]), ht⟩) (fun q h => absurd h List.not_mem_nil) dX11_isSquare_29
  · skip
    have c2 := (fa_bool_prop hr1).2.mp c2
    refine lv_iload_n hx hb dX11_isSquare_12 rfl (lv_at hl 1 rfl) ?_
    refine lv_i2l (v := y.toInt64) hx hb dX11_isSquare_13 rfl ?_
    refine lv_lconst (v := 0) hx hb dX11_isSquare_14 (by decide) ?_
    refine lv_ldc2 (v := 5) hx hb hown (hts (.constantLong RX11 115 (5)) (List.mem_of_getElem? (i := 2) rfl)) dX11_isSquare_15 ?_
    refine vp_callSi (va_Run.run (va_runS (As := [.long y.toInt64, .long 0, .long 5]) (rest := []) ⟨hx, hb, hml, hown, hts⟩ (c_X11_in l y.toInt64 0 5 ) (va_cwS 3 hts gX11_isSquare_X11_in rfl rfl rfl (by decide +kernel) ⟨Nat.le_of_ble_eq_true rfl, Nat.le_of_ble_eq_true rfl⟩) (p0_preS hN) rfl rfl hl.1 rfl (lv_room (Nat.le_of_ble_eq_true rfl)) dX11_isSquare_18 ⟨Nat.le_of_ble_eq_true rfl, Nat.le_of_ble_eq_true rfl⟩)) (fun r3 hr3 => ?_)
    have hr3 : r3 = if 0 ≤ y.toInt64 ∧ y.toInt64 ≤ 5 then 1 else 0 := hr3
    have hr3 := hr3.trans (in_w _ 0 5 (by decide) (by decide))
    refine lv_if_eq (tgt := 28) hx hb dX11_isSquare_21 (by decide) (fun c4 => ?_) (fun c4 => ?_)
    · skip
      have c4 := (fa_bool_prop hr3).1.mp c4
      refine lv_iconst (v := 0) hx hb dX11_isSquare_28 (by decide) ?_
      exact W.zret (v := 0) hx hb hr rfl (fun t ht hW => ⟨0, rfl, (by rw [if_neg (fun h => c4 h.2)]), ht⟩) (fun q h => absurd h List.not_mem_nil) dX11_isSquare_29
    · skip
      have c4 := (fa_bool_prop hr3).2.mp c4
      refine lv_iconst (v := 1) hx hb dX11_isSquare_24 (by decide) ?_
      refine lv_goto (tgt := 29) hx hb dX11_isSquare_25 (by decide) ?_
      exact W.zret (v := 1) hx hb hr rfl (fun t ht hW => ⟨1, rfl, (by rw [if_pos ⟨c2, c4⟩]), ht⟩) (fun q h => absurd h List.not_mem_nil) dX11_isSquare_29
set_option maxHeartbeats 4000000 in
set_option maxRecDepth 100000 in
theorem c_X3_numberOf (l : Launch) (x : Int32) (y : Int32)  : Met l yX3_numberOf wsX3_numberOf ({ frames := 0, cells := 0, slots := 0, locals := 0 }) (p0 [.int x, .int y]) (vp_Si (fun r => r = 8 * y + x)) 0 0 (fun _ => False) := by
  refine p0_met (cc := cX3_numberOf) (maxL := 2) (ret := (some .int)) (by decide) rfl (Nat.le_of_ble_eq_true rfl) ?_
  intro p e s m below meth c0 hx hb hr hml hown hlocks hnm hts hN ls hl
  have hl : lv_has ls 2 [(0, .int x), (1, .int y)] := hl
  refine lv_bipush (v := 8) hx hb dX3_numberOf_0 (by decide) ?_
  refine lv_iload_n hx hb dX3_numberOf_2 rfl (lv_at hl 1 rfl) ?_
  refine lv_imul hx hb dX3_numberOf_3 ?_
  refine lv_iload_n hx hb dX3_numberOf_4 rfl (lv_at hl 0 rfl) ?_
  refine lv_iadd hx hb dX3_numberOf_5 ?_
  exact W.iret (v := (8 * y) + x) hx hb hr (fun t ht hW => ⟨(8 * y) + x, rfl, rfl, ht⟩) (fun q h => absurd h List.not_mem_nil) dX3_numberOf_6
set_option maxHeartbeats 4000000 in
set_option maxRecDepth 100000 in
theorem c_X7_isLane (l : Launch) (x : Int32)  : Met l yX7_isLane wsX7_isLane ({ frames := 1, cells := 0, slots := 0, locals := 30 }) (p0 [.int x]) (vp_Si (fun r => r = if 0 ≤ x ∧ x ≤ 2 then 1 else 0)) 0 0 (fun _ => False) := by
  refine p0_met (cc := cX7_isLane) (maxL := 1) (ret := (some .boolean)) (by decide) rfl (Nat.le_of_ble_eq_true rfl) ?_
  intro p e s m below meth c0 hx hb hr hml hown hlocks hnm hts hN ls hl
  have hl : lv_has ls 1 [(0, .int x)] := hl
  refine lv_iload_n hx hb dX7_isLane_0 rfl (lv_at hl 0 rfl) ?_
  refine lv_iconst (v := 0) hx hb dX7_isLane_1 (by decide) ?_
  refine lv_iconst (v := 2) hx hb dX7_isLane_2 (by decide) ?_
  refine vp_callSi (va_Run.run (va_runSN (As := [.int x, .int 0, .int 2]) (rest := []) ⟨hx, hb, hml, hown, hts⟩ (c_X10_isWithin l x 0 2 ) (⟨va_cnB 3 hts gX7_isLane_X10_isWithin_n19 rfl rfl rfl hN.1.2.1 (hts (.initialized RX10) (List.mem_of_getElem? (i := 2) rfl)) (by decide +kernel) ⟨Nat.le_of_ble_eq_true rfl, Nat.le_of_ble_eq_true rfl⟩, hts (.static yX10_isWithin) (by decide +kernel), trivial⟩) (p0_preS hN) rfl rfl hl.1 rfl (lv_room (Nat.le_of_ble_eq_true rfl)) dX7_isLane_3 ⟨Nat.le_of_ble_eq_true rfl, Nat.le_of_ble_eq_true rfl⟩)) (fun r1 hr1 => ?_)
  have hr1 : r1 = if 0 ≤ x ∧ x ≤ 2 then 1 else 0 := hr1
  exact W.zret (v := r1) hx hb hr (by rw [hr1]; split <;> rfl) (fun t ht hW => ⟨r1, rfl, hr1, ht⟩) (fun q h => absurd h List.not_mem_nil) dX7_isLane_6
set_option maxHeartbeats 4000000 in
set_option maxRecDepth 100000 in
theorem c_X11_lost (l : Launch)   : Met l yX11_lost wsX11_lost ({ frames := 0, cells := 0, slots := 0, locals := 0 }) (p0 []) (vp_Sl (fun r => r = (-9223372036854775808))) 0 0 (fun _ => False) := by
  refine p0_met (cc := cX11_lost) (maxL := 0) (ret := (some .long)) (by decide) rfl (Nat.le_of_ble_eq_true rfl) ?_
  intro p e s m below meth c0 hx hb hr hml hown hlocks hnm hts hN ls hl
  have hl : lv_has ls 0 [] := hl
  refine lv_ldc2 (v := (-9223372036854775808)) hx hb hown (hts (.constantLong RX11 100 (-9223372036854775808)) (List.mem_of_getElem? (i := 1) rfl)) dX11_lost_0 ?_
  exact W.lret (v := (-9223372036854775808)) hx hb hr (fun t ht hW => ⟨(-9223372036854775808), rfl, rfl, ht⟩) (fun q h => absurd h List.not_mem_nil) dX11_lost_3
set_option maxHeartbeats 4000000 in
set_option maxRecDepth 100000 in
theorem c_X11_noSheet (l : Launch) (x : Int32)  : Met l yX11_noSheet wsX11_noSheet ({ frames := 1, cells := 0, slots := 0, locals := 30 }) (p0 [.int x]) (vp_Si (fun r => r = if ¬ (0 ≤ x ∧ x ≤ 3) then 1 else 0)) 0 0 (fun _ => False) := by
  refine p0_met (cc := cX11_noSheet) (maxL := 1) (ret := (some .boolean)) (by decide) rfl (Nat.le_of_ble_eq_true rfl) ?_
  intro p e s m below meth c0 hx hb hr hml hown hlocks hnm hts hN ls hl
  have hl : lv_has ls 1 [(0, .int x)] := hl
  refine lv_iload_n hx hb dX11_noSheet_0 rfl (lv_at hl 0 rfl) ?_
  refine lv_i2l (v := x.toInt64) hx hb dX11_noSheet_1 rfl ?_
  refine lv_lconst (v := 0) hx hb dX11_noSheet_2 (by decide) ?_
  refine lv_ldc2 (v := 3) hx hb hown (hts (.constantLong RX11 142 (3)) (List.mem_of_getElem? (i := 1) rfl)) dX11_noSheet_3 ?_
  refine vp_callSi (va_Run.run (va_runS (As := [.long x.toInt64, .long 0, .long 3]) (rest := []) ⟨hx, hb, hml, hown, hts⟩ (c_X11_in l x.toInt64 0 3 ) (va_cwS 3 hts gX11_noSheet_X11_in rfl rfl rfl (by decide +kernel) ⟨Nat.le_of_ble_eq_true rfl, Nat.le_of_ble_eq_true rfl⟩) (p0_preS hN) rfl rfl hl.1 rfl (lv_room (Nat.le_of_ble_eq_true rfl)) dX11_noSheet_6 ⟨Nat.le_of_ble_eq_true rfl, Nat.le_of_ble_eq_true rfl⟩)) (fun r1 hr1 => ?_)
  have hr1 : r1 = if 0 ≤ x.toInt64 ∧ x.toInt64 ≤ 3 then 1 else 0 := hr1
  have hr1 := hr1.trans (in_w _ 0 3 (by decide) (by decide))
  refine lv_if_ne (tgt := 16) hx hb dX11_noSheet_9 (by decide) (fun c2 => ?_) (fun c2 => ?_)
  · skip
    have c2 := (fa_bool_prop hr1).2.mp c2
    refine lv_iconst (v := 0) hx hb dX11_noSheet_16 (by decide) ?_
    exact W.zret (v := 0) hx hb hr rfl (fun t ht hW => ⟨0, rfl, (by rw [if_neg (fun h => h c2)]), ht⟩) (fun q h => absurd h List.not_mem_nil) dX11_noSheet_17
  · skip
    have c2 := (fa_bool_prop hr1).1.mp c2
    refine lv_iconst (v := 1) hx hb dX11_noSheet_12 (by decide) ?_
    refine lv_goto (tgt := 17) hx hb dX11_noSheet_13 (by decide) ?_
    exact W.zret (v := 1) hx hb hr rfl (fun t ht hW => ⟨1, rfl, (by rw [if_pos c2]), ht⟩) (fun q h => absurd h List.not_mem_nil) dX11_noSheet_17
def rw (qm : Nat) (cI cJ cZ : ClassId) (ad : Nat → Nat) (iv : Nat → Int32) (ia : Nat → Nat → Int32) (la : Nat → Nat → Int64) : va_W := [(qm, .inr (11, [.int (iv 0), .int (iv 1), .ref (ad 2), .ref (ad 3), .ref (ad 4), .ref (ad 5), .int (iv 6), .ref (ad 7), .ref (ad 8), .ref (ad 9), .ref (ad 10), .int (iv 11), .ref (ad 12), .ref (ad 13), .ref (ad 14), .ref (ad 15), .ref (ad 16), .int (iv 17), .ref (ad 18), .ref (ad 19), .int (iv 20), .int (iv 21), .int (iv 22), .int (iv 23), .int (iv 24), .ref (ad 25), .ref (ad 26), .ref (ad 27), .ref (ad 28), .ref (ad 29), .ref (ad 30), .ref (ad 31), .ref (ad 32), .ref (ad 33), .int (iv 34), .ref (ad 35), .ref (ad 36), .ref (ad 37), .int (iv 38)])), (ad 2, .inl (cI, 48, .inl (ia 2))), (ad 3, .inl (cI, 48, .inl (ia 3))), (ad 4, .inl (cI, 48, .inl (ia 4))), (ad 5, .inl (cI, 48, .inl (ia 5))), (ad 7, .inl (cI, 4, .inl (ia 7))), (ad 8, .inl (cI, 4, .inl (ia 8))), (ad 9, .inl (cI, 192, .inl (ia 9))), (ad 10, .inl (cI, 48, .inl (ia 10))), (ad 12, .inl (cI, 12, .inl (ia 12))), (ad 13, .inl (cI, 12, .inl (ia 13))), (ad 14, .inl (cI, 12, .inl (ia 14))), (ad 15, .inl (cI, 12, .inl (ia 15))), (ad 16, .inl (cI, 12, .inl (ia 16))), (ad 18, .inl (cI, 8, .inl (ia 18))), (ad 19, .inl (cJ, 8, .inr (.inl (la 19)))), (ad 25, .inl (cI, 40, .inl (ia 25))), (ad 26, .inl (cI, 40, .inl (ia 26))), (ad 27, .inl (cI, 40, .inl (ia 27))), (ad 28, .inl (cZ, 40, .inl (ia 28))), (ad 29, .inl (cJ, 40, .inr (.inl (la 29)))), (ad 30, .inl (cJ, 40, .inr (.inl (la 30)))), (ad 31, .inl (cJ, 40, .inr (.inl (la 31)))), (ad 32, .inl (cJ, 40, .inr (.inl (la 32)))), (ad 33, .inl (cJ, 40, .inr (.inl (la 33)))), (ad 35, .inl (cI, 80, .inl (ia 35))), (ad 36, .inl (cI, 80, .inl (ia 36))), (ad 37, .inl (cI, 80, .inl (ia 37)))]
abbrev RS : Type := (Nat → Int32) × (Nat → Nat → Int32) × (Nat → Nat → Int64)
/-- what holds of the reference between calls -/
def rinv (iv : Nat → Int32) (ia : Nat → Nat → Int32) (la : Nat → Nat → Int64) : Prop := ∃ pc gc tc kc : Nat, pc ≤ 12 ∧ gc ≤ 8 ∧ tc ≤ 40 ∧ kc ≤ 80 ∧ iv 11 = nI pc ∧ iv 17 = nI gc ∧ iv 24 = nI tc ∧ iv 34 = nI kc ∧ (0 ≤ (iv 1).toInt ∧ (iv 1).toInt ≤ 1000) ∧ (∀ j, j < 48 → 0 ≤ (ia 2 j).toInt ∧ (ia 2 j).toInt ≤ (ia 3 j).toInt ∧ (ia 3 j).toInt ≤ 1000) ∧ (∀ k, k < 4 → -1 ≤ (ia 7 k).toInt ∧ (ia 7 k).toInt ≤ 48) ∧ (iv 20 = -9 ∨ ((∃ p, p < pc ∧ iv 20 = nI p) ∧ (iv 22 = 0 ∨ ∃ g, g < gc ∧ iv 23 = nI g))) ∧ (∀ t, t < tc → (∃ g, g < gc ∧ ia 25 t = nI g) ∧ ∃ p, p < pc ∧ ia 26 t = nI p) ∧ ∀ k, k < kc → ∃ t, t < tc ∧ ia 35 k = nI t
set_option maxHeartbeats 4000000 in
set_option maxRecDepth 100000 in
theorem R_trace (l : Launch) (dC : Nat → ClassId) (dI : Nat → Nat → Nat) (cI : ClassId) (cJ : ClassId) (cZ : ClassId) (sz : Nat) (qm : Nat) (ad : Nat → Nat) (iv : Nat → Int32) (ia : Nat → Nat → Int32) (la : Nat → Nat → Int64) (hI : rinv iv ia la) : Met l yX11_trace wsX11_trace ({ frames := 3, cells := 0, slots := 0, locals := 90 }) (pw (dC, dI) [(cI, .int), (cJ, .long), (cZ, .boolean)] (rw qm cI cJ cZ ad iv ia la) sz [.ref qm]) (vp_Si (fun r => r = iv 38)) 0 0 (fun _ => False) := by
  refine pw_met (cc := cX11_trace) (maxL := 1) (ret := (some .int)) (by decide) rfl (Nat.le_of_ble_eq_true rfl) ?_
  intro p e s m below meth c0 hx hb hr hml hown hlocks hnm hts hP hK hD hN hsz hA hS ls hl
  have hP : va_P (dC, dI) vwCl [(qm, .inr (11, [.int (iv 0), .int (iv 1), .ref (ad 2), .ref (ad 3), .ref (ad 4), .ref (ad 5), .int (iv 6), .ref (ad 7), .ref (ad 8), .ref (ad 9), .ref (ad 10), .int (iv 11), .ref (ad 12), .ref (ad 13), .ref (ad 14), .ref (ad 15), .ref (ad 16), .int (iv 17), .ref (ad 18), .ref (ad 19), .int (iv 20), .int (iv 21), .int (iv 22), .int (iv 23), .int (iv 24), .ref (ad 25), .ref (ad 26), .ref (ad 27), .ref (ad 28), .ref (ad 29), .ref (ad 30), .ref (ad 31), .ref (ad 32), .ref (ad 33), .int (iv 34), .ref (ad 35), .ref (ad 36), .ref (ad 37), .int (iv 38)])), (ad 2, .inl (cI, 48, .inl (ia 2))), (ad 3, .inl (cI, 48, .inl (ia 3))), (ad 4, .inl (cI, 48, .inl (ia 4))), (ad 5, .inl (cI, 48, .inl (ia 5))), (ad 7, .inl (cI, 4, .inl (ia 7))), (ad 8, .inl (cI, 4, .inl (ia 8))), (ad 9, .inl (cI, 192, .inl (ia 9))), (ad 10, .inl (cI, 48, .inl (ia 10))), (ad 12, .inl (cI, 12, .inl (ia 12))), (ad 13, .inl (cI, 12, .inl (ia 13))), (ad 14, .inl (cI, 12, .inl (ia 14))), (ad 15, .inl (cI, 12, .inl (ia 15))), (ad 16, .inl (cI, 12, .inl (ia 16))), (ad 18, .inl (cI, 8, .inl (ia 18))), (ad 19, .inl (cJ, 8, .inr (.inl (la 19)))), (ad 25, .inl (cI, 40, .inl (ia 25))), (ad 26, .inl (cI, 40, .inl (ia 26))), (ad 27, .inl (cI, 40, .inl (ia 27))), (ad 28, .inl (cZ, 40, .inl (ia 28))), (ad 29, .inl (cJ, 40, .inr (.inl (la 29)))), (ad 30, .inl (cJ, 40, .inr (.inl (la 30)))), (ad 31, .inl (cJ, 40, .inr (.inl (la 31)))), (ad 32, .inl (cJ, 40, .inr (.inl (la 32)))), (ad 33, .inl (cJ, 40, .inr (.inl (la 33)))), (ad 35, .inl (cI, 80, .inl (ia 35))), (ad 36, .inl (cI, 80, .inl (ia 36))), (ad 37, .inl (cI, 80, .inl (ia 37)))] s.heap := hP
  have hD : va_D (va_A (rw qm cI cJ cZ ad iv ia la) s.heap.size) [(qm, .inr (11, [.int (iv 0), .int (iv 1), .ref (ad 2), .ref (ad 3), .ref (ad 4), .ref (ad 5), .int (iv 6), .ref (ad 7), .ref (ad 8), .ref (ad 9), .ref (ad 10), .int (iv 11), .ref (ad 12), .ref (ad 13), .ref (ad 14), .ref (ad 15), .ref (ad 16), .int (iv 17), .ref (ad 18), .ref (ad 19), .int (iv 20), .int (iv 21), .int (iv 22), .int (iv 23), .int (iv 24), .ref (ad 25), .ref (ad 26), .ref (ad 27), .ref (ad 28), .ref (ad 29), .ref (ad 30), .ref (ad 31), .ref (ad 32), .ref (ad 33), .int (iv 34), .ref (ad 35), .ref (ad 36), .ref (ad 37), .int (iv 38)])), (ad 2, .inl (cI, 48, .inl (ia 2))), (ad 3, .inl (cI, 48, .inl (ia 3))), (ad 4, .inl (cI, 48, .inl (ia 4))), (ad 5, .inl (cI, 48, .inl (ia 5))), (ad 7, .inl (cI, 4, .inl (ia 7))), (ad 8, .inl (cI, 4, .inl (ia 8))), (ad 9, .inl (cI, 192, .inl (ia 9))), (ad 10, .inl (cI, 48, .inl (ia 10))), (ad 12, .inl (cI, 12, .inl (ia 12))), (ad 13, .inl (cI, 12, .inl (ia 13))), (ad 14, .inl (cI, 12, .inl (ia 14))), (ad 15, .inl (cI, 12, .inl (ia 15))), (ad 16, .inl (cI, 12, .inl (ia 16))), (ad 18, .inl (cI, 8, .inl (ia 18))), (ad 19, .inl (cJ, 8, .inr (.inl (la 19)))), (ad 25, .inl (cI, 40, .inl (ia 25))), (ad 26, .inl (cI, 40, .inl (ia 26))), (ad 27, .inl (cI, 40, .inl (ia 27))), (ad 28, .inl (cZ, 40, .inl (ia 28))), (ad 29, .inl (cJ, 40, .inr (.inl (la 29)))), (ad 30, .inl (cJ, 40, .inr (.inl (la 30)))), (ad 31, .inl (cJ, 40, .inr (.inl (la 31)))), (ad 32, .inl (cJ, 40, .inr (.inl (la 32)))), (ad 33, .inl (cJ, 40, .inr (.inl (la 33)))), (ad 35, .inl (cI, 80, .inl (ia 35))), (ad 36, .inl (cI, 80, .inl (ia 36))), (ad 37, .inl (cI, 80, .inl (ia 37)))] := hD
  have hl : lv_has ls 1 [(0, .ref qm)] := hl
  have hiX11 : ∀ w ∈ wsX110, w ∈ wsX11_trace := fun _ h => List.mem_cons_of_mem _ (List.mem_append_right _ (h))
  refine lv_aload_n hx hb dX11_trace_0 rfl (lv_at hl 0 rfl) ?_
  refine va_get (D := (dC, dI)) (ci := 11) (v := .int (iv 38)) (C := RX11) (T := TX11) (N := 39) hx hb hts hiX11 hown hK hP 0 rfl rfl 38 (by decide) (hts (.fieldLink RX11 235 "TributePitchesModel" "trace" "I") (List.mem_of_getElem? (i := 1) rfl)) (fun _ h9 => h9) rfl dX11_trace_1 ?_
  exact W.iret (v := iv 38) hx hb hr (fun t ht hW => ⟨iv 38, rfl, rfl, ht⟩) (fun q h => absurd h List.not_mem_nil) dX11_trace_4
set_option maxHeartbeats 4000000 in
set_option maxRecDepth 100000 in
theorem R_fault (l : Launch) (dC : Nat → ClassId) (dI : Nat → Nat → Nat) (cI : ClassId) (cJ : ClassId) (cZ : ClassId) (sz : Nat) (qm : Nat) (ad : Nat → Nat) (iv : Nat → Int32) (ia : Nat → Nat → Int32) (la : Nat → Nat → Int64) (hI : rinv iv ia la) : Met l yX11_fault wsX11_fault ({ frames := 3, cells := 0, slots := 0, locals := 90 }) (pw (dC, dI) [(cI, .int), (cJ, .long), (cZ, .boolean)] (rw qm cI cJ cZ ad iv ia la) sz [.ref qm]) (vp_Si (fun r => r = iv 0)) 0 0 (fun _ => False) := by
  refine pw_met (cc := cX11_fault) (maxL := 1) (ret := (some .int)) (by decide) rfl (Nat.le_of_ble_eq_true rfl) ?_
  intro p e s m below meth c0 hx hb hr hml hown hlocks hnm hts hP hK hD hN hsz hA hS ls hl
  have hP : va_P (dC, dI) vwCl [(qm, .inr (11, [.int (iv 0), .int (iv 1), .ref (ad 2), .ref (ad 3), .ref (ad 4), .ref (ad 5), .int (iv 6), .ref (ad 7), .ref (ad 8), .ref (ad 9), .ref (ad 10), .int (iv 11), .ref (ad 12), .ref (ad 13), .ref (ad 14), .ref (ad 15), .ref (ad 16), .int (iv 17), .ref (ad 18), .ref (ad 19), .int (iv 20), .int (iv 21), .int (iv 22), .int (iv 23), .int (iv 24), .ref (ad 25), .ref (ad 26), .ref (ad 27), .ref (ad 28), .ref (ad 29), .ref (ad 30), .ref (ad 31), .ref (ad 32), .ref (ad 33), .int (iv 34), .ref (ad 35), .ref (ad 36), .ref (ad 37), .int (iv 38)])), (ad 2, .inl (cI, 48, .inl (ia 2))), (ad 3, .inl (cI, 48, .inl (ia 3))), (ad 4, .inl (cI, 48, .inl (ia 4))), (ad 5, .inl (cI, 48, .inl (ia 5))), (ad 7, .inl (cI, 4, .inl (ia 7))), (ad 8, .inl (cI, 4, .inl (ia 8))), (ad 9, .inl (cI, 192, .inl (ia 9))), (ad 10, .inl (cI, 48, .inl (ia 10))), (ad 12, .inl (cI, 12, .inl (ia 12))), (ad 13, .inl (cI, 12, .inl (ia 13))), (ad 14, .inl (cI, 12, .inl (ia 14))), (ad 15, .inl (cI, 12, .inl (ia 15))), (ad 16, .inl (cI, 12, .inl (ia 16))), (ad 18, .inl (cI, 8, .inl (ia 18))), (ad 19, .inl (cJ, 8, .inr (.inl (la 19)))), (ad 25, .inl (cI, 40, .inl (ia 25))), (ad 26, .inl (cI, 40, .inl (ia 26))), (ad 27, .inl (cI, 40, .inl (ia 27))), (ad 28, .inl (cZ, 40, .inl (ia 28))), (ad 29, .inl (cJ, 40, .inr (.inl (la 29)))), (ad 30, .inl (cJ, 40, .inr (.inl (la 30)))), (ad 31, .inl (cJ, 40, .inr (.inl (la 31)))), (ad 32, .inl (cJ, 40, .inr (.inl (la 32)))), (ad 33, .inl (cJ, 40, .inr (.inl (la 33)))), (ad 35, .inl (cI, 80, .inl (ia 35))), (ad 36, .inl (cI, 80, .inl (ia 36))), (ad 37, .inl (cI, 80, .inl (ia 37)))] s.heap := hP
  have hD : va_D (va_A (rw qm cI cJ cZ ad iv ia la) s.heap.size) [(qm, .inr (11, [.int (iv 0), .int (iv 1), .ref (ad 2), .ref (ad 3), .ref (ad 4), .ref (ad 5), .int (iv 6), .ref (ad 7), .ref (ad 8), .ref (ad 9), .ref (ad 10), .int (iv 11), .ref (ad 12), .ref (ad 13), .ref (ad 14), .ref (ad 15), .ref (ad 16), .int (iv 17), .ref (ad 18), .ref (ad 19), .int (iv 20), .int (iv 21), .int (iv 22), .int (iv 23), .int (iv 24), .ref (ad 25), .ref (ad 26), .ref (ad 27), .ref (ad 28), .ref (ad 29), .ref (ad 30), .ref (ad 31), .ref (ad 32), .ref (ad 33), .int (iv 34), .ref (ad 35), .ref (ad 36), .ref (ad 37), .int (iv 38)])), (ad 2, .inl (cI, 48, .inl (ia 2))), (ad 3, .inl (cI, 48, .inl (ia 3))), (ad 4, .inl (cI, 48, .inl (ia 4))), (ad 5, .inl (cI, 48, .inl (ia 5))), (ad 7, .inl (cI, 4, .inl (ia 7))), (ad 8, .inl (cI, 4, .inl (ia 8))), (ad 9, .inl (cI, 192, .inl (ia 9))), (ad 10, .inl (cI, 48, .inl (ia 10))), (ad 12, .inl (cI, 12, .inl (ia 12))), (ad 13, .inl (cI, 12, .inl (ia 13))), (ad 14, .inl (cI, 12, .inl (ia 14))), (ad 15, .inl (cI, 12, .inl (ia 15))), (ad 16, .inl (cI, 12, .inl (ia 16))), (ad 18, .inl (cI, 8, .inl (ia 18))), (ad 19, .inl (cJ, 8, .inr (.inl (la 19)))), (ad 25, .inl (cI, 40, .inl (ia 25))), (ad 26, .inl (cI, 40, .inl (ia 26))), (ad 27, .inl (cI, 40, .inl (ia 27))), (ad 28, .inl (cZ, 40, .inl (ia 28))), (ad 29, .inl (cJ, 40, .inr (.inl (la 29)))), (ad 30, .inl (cJ, 40, .inr (.inl (la 30)))), (ad 31, .inl (cJ, 40, .inr (.inl (la 31)))), (ad 32, .inl (cJ, 40, .inr (.inl (la 32)))), (ad 33, .inl (cJ, 40, .inr (.inl (la 33)))), (ad 35, .inl (cI, 80, .inl (ia 35))), (ad 36, .inl (cI, 80, .inl (ia 36))), (ad 37, .inl (cI, 80, .inl (ia 37)))] := hD
  have hl : lv_has ls 1 [(0, .ref qm)] := hl
  have hiX11 : ∀ w ∈ wsX110, w ∈ wsX11_fault := fun _ h => List.mem_cons_of_mem _ (List.mem_append_right _ (h))
  refine lv_aload_n hx hb dX11_fault_0 rfl (lv_at hl 0 rfl) ?_
  refine va_get (D := (dC, dI)) (ci := 11) (v := .int (iv 0)) (C := RX11) (T := TX11) (N := 39) hx hb hts hiX11 hown hK hP 0 rfl rfl 0 (by decide) (hts (.fieldLink RX11 102 "TributePitchesModel" "fault" "I") (List.mem_of_getElem? (i := 1) rfl)) (fun _ h9 => h9) rfl dX11_fault_1 ?_
  exact W.iret (v := iv 0) hx hb hr (fun t ht hW => ⟨iv 0, rfl, rfl, ht⟩) (fun q h => absurd h List.not_mem_nil) dX11_fault_4
theorem ix_iff {g cn : Int32} {n : Nat} (hc : cn = nI n) (hn : n ≤ 100) : (0 ≤ g.toInt64 ∧ g.toInt64 ≤ cn.toInt64 - 1) ↔ ∃ j, j < n ∧ g = nI j := by
  subst hc
  have e : (nI n).toInt64 - 1 = (nI n - 1).toInt64 := by
    apply Int64.toInt_inj.mp
    rw [Int64.toInt_sub, Int32.toInt_toInt64, Int32.toInt_toInt64, Int32.toInt_sub, nI_toInt (by omega)]
    have h1 : (1 : Int64).toInt = 1 := by decide
    have h2 : (1 : Int32).toInt = 1 := by decide
    rw [h1, h2, Int.bmod_eq_of_le (by omega) (by omega), Int.bmod_eq_of_le (by omega) (by omega)]
  have z : (0 : Int64) = (0 : Int32).toInt64 := by decide
  rw [e, z, fa_wide_le, fa_wide_le]
  constructor
  · rintro ⟨h1, h2⟩
    obtain ⟨j, hj, rfl⟩ := nI_of (x := g) (Int32.not_lt.mpr h1)
    refine ⟨j, ?_, rfl⟩
    have h3 := (fa_le _ _).mp h2
    rw [nI_toInt hj, Int32.toInt_sub, nI_toInt (by omega)] at h3
    have h4 : (1 : Int32).toInt = 1 := by decide
    rw [h4, Int.bmod_eq_of_le (by omega) (by omega)] at h3
    omega
  · rintro ⟨j, hj, rfl⟩
    refine ⟨nI_pos' (by omega), (fa_le _ _).mpr ?_⟩
    rw [nI_toInt (by omega), Int32.toInt_sub, nI_toInt (by omega)]
    have h4 : (1 : Int32).toInt = 1 := by decide
    rw [h4, Int.bmod_eq_of_le (by omega) (by omega)]
    omega
theorem ix_no {g cn : Int32} {n : Nat} (hc : cn = nI n) (hn : n ≤ 100) (h : ¬ (0 ≤ g.toInt64 ∧ g.toInt64 ≤ cn.toInt64 - 1)) : ∀ j, j < n → g ≠ nI j := fun j hj e => h ((ix_iff hc hn).mpr ⟨j, hj, e⟩)
theorem ix_yes {g cn : Int32} {n : Nat} (hc : cn = nI n) (hn : n ≤ 100) (h : 0 ≤ g.toInt64 ∧ g.toInt64 ≤ cn.toInt64 - 1) : ∃ j, j < n ∧ g = nI j := (ix_iff hc hn).mp h
set_option maxHeartbeats 4000000 in
set_option maxRecDepth 100000 in
theorem r_X11_noPitch (l : Launch) (dC : Nat → ClassId) (dI : Nat → Nat → Nat)  (sz : Nat) (qm : Nat) (w0 : Value) (w1 : Value) (w2 : Value) (w3 : Value) (w4 : Value) (w5 : Value) (w6 : Value) (w7 : Value) (w8 : Value) (w9 : Value) (w10 : Value) (w12 : Value) (w13 : Value) (w14 : Value) (w15 : Value) (w16 : Value) (w17 : Value) (w18 : Value) (w19 : Value) (w20 : Value) (w21 : Value) (w22 : Value) (w23 : Value) (w24 : Value) (w25 : Value) (w26 : Value) (w27 : Value) (w28 : Value) (w29 : Value) (w30 : Value) (w31 : Value) (w32 : Value) (w33 : Value) (w34 : Value) (w35 : Value) (w36 : Value) (w37 : Value) (w38 : Value) (cn : Int32) (g : Int32) (n : Nat) (hc : cn = nI n) (hn : n ≤ 100) : Met l yX11_noPitch wsX11_noPitch ({ frames := 1, cells := 0, slots := 0, locals := 30 }) (pw (dC, dI) [] [(qm, .inr (11, [w0, w1, w2, w3, w4, w5, w6, w7, w8, w9, w10, .int cn, w12, w13, w14, w15, w16, w17, w18, w19, w20, w21, w22, w23, w24, w25, w26, w27, w28, w29, w30, w31, w32, w33, w34, w35, w36, w37, w38]))] sz [.ref qm, .int g]) (vp_Si (fun r => (r = 1 ∧ ∀ j, j < n → g ≠ nI j) ∨ (r = 0 ∧ ∃ j, j < n ∧ g = nI j))) 0 0 (fun _ => False) := by
  refine pw_met (cc := cX11_noPitch) (maxL := 2) (ret := (some .boolean)) (by decide) rfl (Nat.le_of_ble_eq_true rfl) ?_
  intro p e s m below meth c0 hx hb hr hml hown hlocks hnm hts hP hK hD hN hsz hA hS ls hl
  have hl : lv_has ls 2 [(0, .ref qm), (1, .int g)] := hl
  have hiX11 : ∀ w ∈ wsX110, w ∈ wsX11_noPitch := fun _ h => List.mem_cons_of_mem _ (List.mem_append_right _ (h))
  refine lv_iload_n hx hb dX11_noPitch_0 rfl (lv_at hl 1 rfl) ?_
  refine lv_i2l (v := g.toInt64) hx hb dX11_noPitch_1 rfl ?_
  refine lv_lconst (v := 0) hx hb dX11_noPitch_2 (by decide) ?_
  refine lv_aload_n hx hb dX11_noPitch_3 rfl (lv_at hl 0 rfl) ?_
  refine va_get (D := (dC, dI)) (ci := 11) (v := .int cn) (C := RX11) (T := TX11) (N := 39) hx hb hts hiX11 hown hK hP 0 rfl rfl 11 (by decide) (hts (.fieldLink RX11 170 "TributePitchesModel" "pitches" "I") (List.mem_of_getElem? (i := 1) rfl)) (fun _ h9 => h9) rfl dX11_noPitch_4 ?_
  refine lv_i2l (v := cn.toInt64) hx hb dX11_noPitch_7 rfl ?_
  refine lv_lconst (v := 1) hx hb dX11_noPitch_8 (by decide) ?_
  refine lv_lsub hx hb dX11_noPitch_9 ?_
  refine vp_callSi (va_Run.run (va_runS (As := [.long g.toInt64, .long 0, .long (cn.toInt64 - 1)]) (rest := []) ⟨hx, hb, hml, hown, hts⟩ (c_X11_in l g.toInt64 0 (cn.toInt64 - 1) ) (va_cwS 3 hts gX11_noPitch_X11_in rfl rfl rfl (by decide +kernel) ⟨Nat.le_of_ble_eq_true rfl, Nat.le_of_ble_eq_true rfl⟩) (p0_preS hN) rfl rfl hl.1 rfl (lv_room (Nat.le_of_ble_eq_true rfl)) dX11_noPitch_10 ⟨Nat.le_of_ble_eq_true rfl, Nat.le_of_ble_eq_true rfl⟩)) (fun r1 hr1 => ?_)
  have hr1 : r1 = if 0 ≤ g.toInt64 ∧ g.toInt64 ≤ (cn.toInt64 - 1) then 1 else 0 := hr1
  refine lv_if_ne (tgt := 20) hx hb dX11_noPitch_13 (by decide) (fun c2 => ?_) (fun c2 => ?_)
  · skip
    have c2 := (fa_bool_prop hr1).2.mp c2
    refine lv_iconst (v := 0) hx hb dX11_noPitch_20 (by decide) ?_
    exact W.zret (v := 0) hx hb hr rfl (fun t ht hW => ⟨0, rfl, (Or.inr ⟨rfl, ix_yes hc hn c2⟩), ht⟩) (fun q h => absurd h List.not_mem_nil) dX11_noPitch_21
  · skip
    have c2 := (fa_bool_prop hr1).1.mp c2
    refine lv_iconst (v := 1) hx hb dX11_noPitch_16 (by decide) ?_
    refine lv_goto (tgt := 21) hx hb dX11_noPitch_17 (by decide) ?_
    exact W.zret (v := 1) hx hb hr rfl (fun t ht hW => ⟨1, rfl, (Or.inl ⟨rfl, ix_no hc hn c2⟩), ht⟩) (fun q h => absurd h List.not_mem_nil) dX11_noPitch_21
set_option maxHeartbeats 4000000 in
set_option maxRecDepth 100000 in
theorem r_X11_noGang (l : Launch) (dC : Nat → ClassId) (dI : Nat → Nat → Nat)  (sz : Nat) (qm : Nat) (w0 : Value) (w1 : Value) (w2 : Value) (w3 : Value) (w4 : Value) (w5 : Value) (w6 : Value) (w7 : Value) (w8 : Value) (w9 : Value) (w10 : Value) (w11 : Value) (w12 : Value) (w13 : Value) (w14 : Value) (w15 : Value) (w16 : Value) (w18 : Value) (w19 : Value) (w20 : Value) (w21 : Value) (w22 : Value) (w23 : Value) (w24 : Value) (w25 : Value) (w26 : Value) (w27 : Value) (w28 : Value) (w29 : Value) (w30 : Value) (w31 : Value) (w32 : Value) (w33 : Value) (w34 : Value) (w35 : Value) (w36 : Value) (w37 : Value) (w38 : Value) (cn : Int32) (g : Int32) (n : Nat) (hc : cn = nI n) (hn : n ≤ 100) : Met l yX11_noGang wsX11_noGang ({ frames := 1, cells := 0, slots := 0, locals := 30 }) (pw (dC, dI) [] [(qm, .inr (11, [w0, w1, w2, w3, w4, w5, w6, w7, w8, w9, w10, w11, w12, w13, w14, w15, w16, .int cn, w18, w19, w20, w21, w22, w23, w24, w25, w26, w27, w28, w29, w30, w31, w32, w33, w34, w35, w36, w37, w38]))] sz [.ref qm, .int g]) (vp_Si (fun r => (r = 1 ∧ ∀ j, j < n → g ≠ nI j) ∨ (r = 0 ∧ ∃ j, j < n ∧ g = nI j))) 0 0 (fun _ => False) := by
  refine pw_met (cc := cX11_noGang) (maxL := 2) (ret := (some .boolean)) (by decide) rfl (Nat.le_of_ble_eq_true rfl) ?_
  intro p e s m below meth c0 hx hb hr hml hown hlocks hnm hts hP hK hD hN hsz hA hS ls hl
  have hl : lv_has ls 2 [(0, .ref qm), (1, .int g)] := hl
  have hiX11 : ∀ w ∈ wsX110, w ∈ wsX11_noGang := fun _ h => List.mem_cons_of_mem _ (List.mem_append_right _ (h))
  refine lv_iload_n hx hb dX11_noGang_0 rfl (lv_at hl 1 rfl) ?_
  refine lv_i2l (v := g.toInt64) hx hb dX11_noGang_1 rfl ?_
  refine lv_lconst (v := 0) hx hb dX11_noGang_2 (by decide) ?_
  refine lv_aload_n hx hb dX11_noGang_3 rfl (lv_at hl 0 rfl) ?_
  refine va_get (D := (dC, dI)) (ci := 11) (v := .int cn) (C := RX11) (T := TX11) (N := 39) hx hb hts hiX11 hown hK hP 0 rfl rfl 17 (by decide) (hts (.fieldLink RX11 185 "TributePitchesModel" "gangs" "I") (List.mem_of_getElem? (i := 1) rfl)) (fun _ h9 => h9) rfl dX11_noGang_4 ?_
  refine lv_i2l (v := cn.toInt64) hx hb dX11_noGang_7 rfl ?_
  refine lv_lconst (v := 1) hx hb dX11_noGang_8 (by decide) ?_
  refine lv_lsub hx hb dX11_noGang_9 ?_
  refine vp_callSi (va_Run.run (va_runS (As := [.long g.toInt64, .long 0, .long (cn.toInt64 - 1)]) (rest := []) ⟨hx, hb, hml, hown, hts⟩ (c_X11_in l g.toInt64 0 (cn.toInt64 - 1) ) (va_cwS 3 hts gX11_noGang_X11_in rfl rfl rfl (by decide +kernel) ⟨Nat.le_of_ble_eq_true rfl, Nat.le_of_ble_eq_true rfl⟩) (p0_preS hN) rfl rfl hl.1 rfl (lv_room (Nat.le_of_ble_eq_true rfl)) dX11_noGang_10 ⟨Nat.le_of_ble_eq_true rfl, Nat.le_of_ble_eq_true rfl⟩)) (fun r1 hr1 => ?_)
  have hr1 : r1 = if 0 ≤ g.toInt64 ∧ g.toInt64 ≤ (cn.toInt64 - 1) then 1 else 0 := hr1
  refine lv_if_ne (tgt := 20) hx hb dX11_noGang_13 (by decide) (fun c2 => ?_) (fun c2 => ?_)
  · skip
    have c2 := (fa_bool_prop hr1).2.mp c2
    refine lv_iconst (v := 0) hx hb dX11_noGang_20 (by decide) ?_
    exact W.zret (v := 0) hx hb hr rfl (fun t ht hW => ⟨0, rfl, (Or.inr ⟨rfl, ix_yes hc hn c2⟩), ht⟩) (fun q h => absurd h List.not_mem_nil) dX11_noGang_21
  · skip
    have c2 := (fa_bool_prop hr1).1.mp c2
    refine lv_iconst (v := 1) hx hb dX11_noGang_16 (by decide) ?_
    refine lv_goto (tgt := 21) hx hb dX11_noGang_17 (by decide) ?_
    exact W.zret (v := 1) hx hb hr rfl (fun t ht hW => ⟨1, rfl, (Or.inl ⟨rfl, ix_no hc hn c2⟩), ht⟩) (fun q h => absurd h List.not_mem_nil) dX11_noGang_21
set_option maxHeartbeats 4000000 in
set_option maxRecDepth 100000 in
theorem r_X11_noTake (l : Launch) (dC : Nat → ClassId) (dI : Nat → Nat → Nat)  (sz : Nat) (qm : Nat) (w0 : Value) (w1 : Value) (w2 : Value) (w3 : Value) (w4 : Value) (w5 : Value) (w6 : Value) (w7 : Value) (w8 : Value) (w9 : Value) (w10 : Value) (w11 : Value) (w12 : Value) (w13 : Value) (w14 : Value) (w15 : Value) (w16 : Value) (w17 : Value) (w18 : Value) (w19 : Value) (w20 : Value) (w21 : Value) (w22 : Value) (w23 : Value) (w25 : Value) (w26 : Value) (w27 : Value) (w28 : Value) (w29 : Value) (w30 : Value) (w31 : Value) (w32 : Value) (w33 : Value) (w34 : Value) (w35 : Value) (w36 : Value) (w37 : Value) (w38 : Value) (cn : Int32) (g : Int32) (n : Nat) (hc : cn = nI n) (hn : n ≤ 100) : Met l yX11_noTake wsX11_noTake ({ frames := 1, cells := 0, slots := 0, locals := 30 }) (pw (dC, dI) [] [(qm, .inr (11, [w0, w1, w2, w3, w4, w5, w6, w7, w8, w9, w10, w11, w12, w13, w14, w15, w16, w17, w18, w19, w20, w21, w22, w23, .int cn, w25, w26, w27, w28, w29, w30, w31, w32, w33, w34, w35, w36, w37, w38]))] sz [.ref qm, .int g]) (vp_Si (fun r => (r = 1 ∧ ∀ j, j < n → g ≠ nI j) ∨ (r = 0 ∧ ∃ j, j < n ∧ g = nI j))) 0 0 (fun _ => False) := by
  refine pw_met (cc := cX11_noTake) (maxL := 2) (ret := (some .boolean)) (by decide) rfl (Nat.le_of_ble_eq_true rfl) ?_
  intro p e s m below meth c0 hx hb hr hml hown hlocks hnm hts hP hK hD hN hsz hA hS ls hl
  have hl : lv_has ls 2 [(0, .ref qm), (1, .int g)] := hl
  have hiX11 : ∀ w ∈ wsX110, w ∈ wsX11_noTake := fun _ h => List.mem_cons_of_mem _ (List.mem_append_right _ (h))
  refine lv_iload_n hx hb dX11_noTake_0 rfl (lv_at hl 1 rfl) ?_
  refine lv_i2l (v := g.toInt64) hx hb dX11_noTake_1 rfl ?_
  refine lv_lconst (v := 0) hx hb dX11_noTake_2 (by decide) ?_
  refine lv_aload_n hx hb dX11_noTake_3 rfl (lv_at hl 0 rfl) ?_
  refine va_get (D := (dC, dI)) (ci := 11) (v := .int cn) (C := RX11) (T := TX11) (N := 39) hx hb hts hiX11 hown hK hP 0 rfl rfl 24 (by decide) (hts (.fieldLink RX11 188 "TributePitchesModel" "takes" "I") (List.mem_of_getElem? (i := 1) rfl)) (fun _ h9 => h9) rfl dX11_noTake_4 ?_
  refine lv_i2l (v := cn.toInt64) hx hb dX11_noTake_7 rfl ?_
  refine lv_lconst (v := 1) hx hb dX11_noTake_8 (by decide) ?_
  refine lv_lsub hx hb dX11_noTake_9 ?_
  refine vp_callSi (va_Run.run (va_runS (As := [.long g.toInt64, .long 0, .long (cn.toInt64 - 1)]) (rest := []) ⟨hx, hb, hml, hown, hts⟩ (c_X11_in l g.toInt64 0 (cn.toInt64 - 1) ) (va_cwS 3 hts gX11_noTake_X11_in rfl rfl rfl (by decide +kernel) ⟨Nat.le_of_ble_eq_true rfl, Nat.le_of_ble_eq_true rfl⟩) (p0_preS hN) rfl rfl hl.1 rfl (lv_room (Nat.le_of_ble_eq_true rfl)) dX11_noTake_10 ⟨Nat.le_of_ble_eq_true rfl, Nat.le_of_ble_eq_true rfl⟩)) (fun r1 hr1 => ?_)
  have hr1 : r1 = if 0 ≤ g.toInt64 ∧ g.toInt64 ≤ (cn.toInt64 - 1) then 1 else 0 := hr1
  refine lv_if_ne (tgt := 20) hx hb dX11_noTake_13 (by decide) (fun c2 => ?_) (fun c2 => ?_)
  · skip
    have c2 := (fa_bool_prop hr1).2.mp c2
    refine lv_iconst (v := 0) hx hb dX11_noTake_20 (by decide) ?_
    exact W.zret (v := 0) hx hb hr rfl (fun t ht hW => ⟨0, rfl, (Or.inr ⟨rfl, ix_yes hc hn c2⟩), ht⟩) (fun q h => absurd h List.not_mem_nil) dX11_noTake_21
  · skip
    have c2 := (fa_bool_prop hr1).1.mp c2
    refine lv_iconst (v := 1) hx hb dX11_noTake_16 (by decide) ?_
    refine lv_goto (tgt := 21) hx hb dX11_noTake_17 (by decide) ?_
    exact W.zret (v := 1) hx hb hr rfl (fun t ht hW => ⟨1, rfl, (Or.inl ⟨rfl, ix_no hc hn c2⟩), ht⟩) (fun q h => absurd h List.not_mem_nil) dX11_noTake_21
set_option maxHeartbeats 4000000 in
set_option maxRecDepth 100000 in
theorem R_debt (l : Launch) (dC : Nat → ClassId) (dI : Nat → Nat → Nat) (cI : ClassId) (cJ : ClassId) (cZ : ClassId) (sz : Nat) (qm : Nat) (ad : Nat → Nat) (iv : Nat → Int32) (ia : Nat → Nat → Int32) (la : Nat → Nat → Int64) (g : Int32) (hI : rinv iv ia la) : Met l yX11_debt wsX11_debt ({ frames := 3, cells := 0, slots := 0, locals := 90 }) (pw (dC, dI) [(cI, .int), (cJ, .long), (cZ, .boolean)] (rw qm cI cJ cZ ad iv ia la) sz [.ref qm, .int g]) (vp_Sl (fun r => True)) 0 0 (fun _ => False) := by
  refine pw_met (cc := cX11_debt) (maxL := 2) (ret := (some .long)) (by decide) rfl (Nat.le_of_ble_eq_true rfl) ?_
  intro p e s m below meth c0 hx hb hr hml hown hlocks hnm hts hP hK hD hN hsz hA hS ls hl
  have hP : va_P (dC, dI) vwCl [(qm, .inr (11, [.int (iv 0), .int (iv 1), .ref (ad 2), .ref (ad 3), .ref (ad 4), .ref (ad 5), .int (iv 6), .ref (ad 7), .ref (ad 8), .ref (ad 9), .ref (ad 10), .int (iv 11), .ref (ad 12), .ref (ad 13), .ref (ad 14), .ref (ad 15), .ref (ad 16), .int (iv 17), .ref (ad 18), .ref (ad 19), .int (iv 20), .int (iv 21), .int (iv 22), .int (iv 23), .int (iv 24), .ref (ad 25), .ref (ad 26), .ref (ad 27), .ref (ad 28), .ref (ad 29), .ref (ad 30), .ref (ad 31), .ref (ad 32), .ref (ad 33), .int (iv 34), .ref (ad 35), .ref (ad 36), .ref (ad 37), .int (iv 38)])), (ad 2, .inl (cI, 48, .inl (ia 2))), (ad 3, .inl (cI, 48, .inl (ia 3))), (ad 4, .inl (cI, 48, .inl (ia 4))), (ad 5, .inl (cI, 48, .inl (ia 5))), (ad 7, .inl (cI, 4, .inl (ia 7))), (ad 8, .inl (cI, 4, .inl (ia 8))), (ad 9, .inl (cI, 192, .inl (ia 9))), (ad 10, .inl (cI, 48, .inl (ia 10))), (ad 12, .inl (cI, 12, .inl (ia 12))), (ad 13, .inl (cI, 12, .inl (ia 13))), (ad 14, .inl (cI, 12, .inl (ia 14))), (ad 15, .inl (cI, 12, .inl (ia 15))), (ad 16, .inl (cI, 12, .inl (ia 16))), (ad 18, .inl (cI, 8, .inl (ia 18))), (ad 19, .inl (cJ, 8, .inr (.inl (la 19)))), (ad 25, .inl (cI, 40, .inl (ia 25))), (ad 26, .inl (cI, 40, .inl (ia 26))), (ad 27, .inl (cI, 40, .inl (ia 27))), (ad 28, .inl (cZ, 40, .inl (ia 28))), (ad 29, .inl (cJ, 40, .inr (.inl (la 29)))), (ad 30, .inl (cJ, 40, .inr (.inl (la 30)))), (ad 31, .inl (cJ, 40, .inr (.inl (la 31)))), (ad 32, .inl (cJ, 40, .inr (.inl (la 32)))), (ad 33, .inl (cJ, 40, .inr (.inl (la 33)))), (ad 35, .inl (cI, 80, .inl (ia 35))), (ad 36, .inl (cI, 80, .inl (ia 36))), (ad 37, .inl (cI, 80, .inl (ia 37)))] s.heap := hP
  have hD : va_D (va_A (rw qm cI cJ cZ ad iv ia la) s.heap.size) [(qm, .inr (11, [.int (iv 0), .int (iv 1), .ref (ad 2), .ref (ad 3), .ref (ad 4), .ref (ad 5), .int (iv 6), .ref (ad 7), .ref (ad 8), .ref (ad 9), .ref (ad 10), .int (iv 11), .ref (ad 12), .ref (ad 13), .ref (ad 14), .ref (ad 15), .ref (ad 16), .int (iv 17), .ref (ad 18), .ref (ad 19), .int (iv 20), .int (iv 21), .int (iv 22), .int (iv 23), .int (iv 24), .ref (ad 25), .ref (ad 26), .ref (ad 27), .ref (ad 28), .ref (ad 29), .ref (ad 30), .ref (ad 31), .ref (ad 32), .ref (ad 33), .int (iv 34), .ref (ad 35), .ref (ad 36), .ref (ad 37), .int (iv 38)])), (ad 2, .inl (cI, 48, .inl (ia 2))), (ad 3, .inl (cI, 48, .inl (ia 3))), (ad 4, .inl (cI, 48, .inl (ia 4))), (ad 5, .inl (cI, 48, .inl (ia 5))), (ad 7, .inl (cI, 4, .inl (ia 7))), (ad 8, .inl (cI, 4, .inl (ia 8))), (ad 9, .inl (cI, 192, .inl (ia 9))), (ad 10, .inl (cI, 48, .inl (ia 10))), (ad 12, .inl (cI, 12, .inl (ia 12))), (ad 13, .inl (cI, 12, .inl (ia 13))), (ad 14, .inl (cI, 12, .inl (ia 14))), (ad 15, .inl (cI, 12, .inl (ia 15))), (ad 16, .inl (cI, 12, .inl (ia 16))), (ad 18, .inl (cI, 8, .inl (ia 18))), (ad 19, .inl (cJ, 8, .inr (.inl (la 19)))), (ad 25, .inl (cI, 40, .inl (ia 25))), (ad 26, .inl (cI, 40, .inl (ia 26))), (ad 27, .inl (cI, 40, .inl (ia 27))), (ad 28, .inl (cZ, 40, .inl (ia 28))), (ad 29, .inl (cJ, 40, .inr (.inl (la 29)))), (ad 30, .inl (cJ, 40, .inr (.inl (la 30)))), (ad 31, .inl (cJ, 40, .inr (.inl (la 31)))), (ad 32, .inl (cJ, 40, .inr (.inl (la 32)))), (ad 33, .inl (cJ, 40, .inr (.inl (la 33)))), (ad 35, .inl (cI, 80, .inl (ia 35))), (ad 36, .inl (cI, 80, .inl (ia 36))), (ad 37, .inl (cI, 80, .inl (ia 37)))] := hD
  have hl : lv_has ls 2 [(0, .ref qm), (1, .int g)] := hl
  have hiX11 : ∀ w ∈ wsX110, w ∈ wsX11_debt := fun _ h => List.mem_cons_of_mem _ (List.mem_append_right _ (h))
  obtain ⟨pc, gc, tc, kc, hpc, hgc, htc, hkc, epc, egc, etc, ekc, hfar, hlh, hss, hsold, htk, hpk⟩ := id hI
  refine lv_aload_n hx hb dX11_debt_0 rfl (lv_at hl 0 rfl) ?_
  refine lv_iload_n hx hb dX11_debt_1 rfl (lv_at hl 1 rfl) ?_
  have hPc := hP.sub (ws' := [(qm, .inr (11, [.int (iv 0), .int (iv 1), .ref (ad 2), .ref (ad 3), .ref (ad 4), .ref (ad 5), .int (iv 6), .ref (ad 7), .ref (ad 8), .ref (ad 9), .ref (ad 10), .int (iv 11), .ref (ad 12), .ref (ad 13), .ref (ad 14), .ref (ad 15), .ref (ad 16), .int (iv 17), .ref (ad 18), .ref (ad 19), .int (iv 20), .int (iv 21), .int (iv 22), .int (iv 23), .int (iv 24), .ref (ad 25), .ref (ad 26), .ref (ad 27), .ref (ad 28), .ref (ad 29), .ref (ad 30), .ref (ad 31), .ref (ad 32), .ref (ad 33), .int (iv 34), .ref (ad 35), .ref (ad 36), .ref (ad 37), .int (iv 38)]))]) [0] rfl
  have hDc := hD.sub (ws' := [(qm, .inr (11, [.int (iv 0), .int (iv 1), .ref (ad 2), .ref (ad 3), .ref (ad 4), .ref (ad 5), .int (iv 6), .ref (ad 7), .ref (ad 8), .ref (ad 9), .ref (ad 10), .int (iv 11), .ref (ad 12), .ref (ad 13), .ref (ad 14), .ref (ad 15), .ref (ad 16), .int (iv 17), .ref (ad 18), .ref (ad 19), .int (iv 20), .int (iv 21), .int (iv 22), .int (iv 23), .int (iv 24), .ref (ad 25), .ref (ad 26), .ref (ad 27), .ref (ad 28), .ref (ad 29), .ref (ad 30), .ref (ad 31), .ref (ad 32), .ref (ad 33), .int (iv 34), .ref (ad 35), .ref (ad 36), .ref (ad 37), .int (iv 38)]))]) [0] (by decide) rfl
  have hKc := hK.sub (tys' := []) [] rfl
  refine vp_callSi (va_Run.run (va_runV (As := [.int g]) (rest := []) ⟨hx, hb, hml, hown, hts⟩ (r_X11_noGang l dC dI  _ qm (.int (iv 0)) (.int (iv 1)) (.ref (ad 2)) (.ref (ad 3)) (.ref (ad 4)) (.ref (ad 5)) (.int (iv 6)) (.ref (ad 7)) (.ref (ad 8)) (.ref (ad 9)) (.ref (ad 10)) (.int (iv 11)) (.ref (ad 12)) (.ref (ad 13)) (.ref (ad 14)) (.ref (ad 15)) (.ref (ad 16)) (.ref (ad 18)) (.ref (ad 19)) (.int (iv 20)) (.int (iv 21)) (.int (iv 22)) (.int (iv 23)) (.int (iv 24)) (.ref (ad 25)) (.ref (ad 26)) (.ref (ad 27)) (.ref (ad 28)) (.ref (ad 29)) (.ref (ad 30)) (.ref (ad 31)) (.ref (ad 32)) (.ref (ad 33)) (.int (iv 34)) (.ref (ad 35)) (.ref (ad 36)) (.ref (ad 37)) (.int (iv 38)) (iv 17) g gc egc (by omega)) (cwV 1 hts gX11_debt_X11_noGang rfl rfl rfl (by decide +kernel) ⟨Nat.le_of_ble_eq_true rfl, Nat.le_of_ble_eq_true rfl⟩) (pw_preV (va_recv hKc hPc (ci := 11) (q0 := 0) rfl rfl) hPc hKc hDc hN) rfl rfl hl.1 rfl (lv_room (Nat.le_of_ble_eq_true rfl)) dX11_debt_2 ⟨Nat.le_of_ble_eq_true rfl, Nat.le_of_ble_eq_true rfl⟩)) (fun r1 hr1 => ?_)
  have hr1 : (r1 = 1 ∧ ∀ j, j < gc → g ≠ nI j) ∨ (r1 = 0 ∧ ∃ j, j < gc ∧ g = nI j) := hr1
  rcases hr1 with ⟨er1, hnoa⟩ | ⟨er1, jg, hjg, ega⟩
  · subst er1
    refine lv_if_eq (tgt := 14) hx hb dX11_debt_5 (by decide) (fun c2 => ?_) (fun c2 => ?_)
    · exact absurd c2 (by decide)
    · skip
      refine vp_callSl (va_Run.run (va_runS (As := []) (rest := []) ⟨hx, hb, hml, hown, hts⟩ (c_X11_lost l  ) (va_cwS 0 hts gX11_debt_X11_lost rfl rfl rfl (by decide +kernel) ⟨Nat.le_of_ble_eq_true rfl, Nat.le_of_ble_eq_true rfl⟩) (p0_preS hN) rfl rfl hl.1 rfl (lv_room (Nat.le_of_ble_eq_true rfl)) dX11_debt_8 ⟨Nat.le_of_ble_eq_true rfl, Nat.le_of_ble_eq_true rfl⟩)) (fun r3 hr3 => ?_)
      have hr3 : r3 = (-9223372036854775808) := hr3
      subst hr3
      refine lv_goto (tgt := 20) hx hb dX11_debt_11 (by decide) ?_
      exact W.lret (v := (-9223372036854775808)) hx hb hr (fun t ht hW => ⟨(-9223372036854775808), rfl, trivial, ht⟩) (fun q h => absurd h List.not_mem_nil) dX11_debt_20
  · subst er1
    subst ega
    refine lv_if_eq (tgt := 14) hx hb dX11_debt_5 (by decide) (fun c4 => ?_) (fun c4 => ?_)
    · skip
      refine lv_aload_n hx hb dX11_debt_14 rfl (lv_at hl 0 rfl) ?_
      refine va_get (D := (dC, dI)) (ci := 11) (v := .ref (ad 19)) (C := RX11) (T := TX11) (N := 39) hx hb hts hiX11 hown hK hP 0 rfl rfl 19 (by decide) (hts (.fieldLink RX11 52 "TributePitchesModel" "debt" "[J") (List.mem_of_getElem? (i := 1) rfl)) (fun _ h9 => h9) rfl dX11_debt_15 ?_
      refine lv_iload_n hx hb dX11_debt_18 rfl (lv_at hl 1 rfl) ?_
      refine va_lald hx hb hK hP 15 1 rfl rfl (vp_in_nI (by omega) (by omega)) dX11_debt_19 ?_
      exact W.lret (v := (la 19) (nI jg).toNatClampNeg) hx hb hr (fun t ht hW => ⟨(la 19) (nI jg).toNatClampNeg, rfl, trivial, ht⟩) (fun q h => absurd h List.not_mem_nil) dX11_debt_20
    · exact absurd c4 (by decide)
def wsum (f a b : Nat → Int32) (g : Int32) : Nat → Int64
  | 0 => 0
  | k + 1 => wsum f a b g k + (if f k = g then (a k).toInt64 * (b k).toInt64 else 0)
set_option maxHeartbeats 4000000 in
set_option maxRecDepth 100000 in
theorem r_X11_takesBy (l : Launch) (dC : Nat → ClassId) (dI : Nat → Nat → Nat) (cI : ClassId) (sz : Nat) (qm : Nat) (w0 : Value) (w1 : Value) (w2 : Value) (w3 : Value) (w4 : Value) (w5 : Value) (w6 : Value) (w7 : Value) (w8 : Value) (w9 : Value) (w10 : Value) (w11 : Value) (w12 : Value) (w13 : Value) (w14 : Value) (w15 : Value) (w16 : Value) (w17 : Value) (w18 : Value) (w19 : Value) (w20 : Value) (w21 : Value) (w22 : Value) (w23 : Value) (w26 : Value) (w27 : Value) (w28 : Value) (w29 : Value) (w30 : Value) (w31 : Value) (w32 : Value) (w33 : Value) (w34 : Value) (w35 : Value) (w36 : Value) (w37 : Value) (w38 : Value) (ra : Nat) (cn : Int32) (g : Int32) (n : Nat) (f : Nat → Int32) (hc : cn = nI n) (hn : n ≤ 40) : Met l yX11_takesBy wsX11_takesBy ({ frames := 0, cells := 0, slots := 0, locals := 0 }) (pw (dC, dI) [(cI, .int)] [(qm, .inr (11, [w0, w1, w2, w3, w4, w5, w6, w7, w8, w9, w10, w11, w12, w13, w14, w15, w16, w17, w18, w19, w20, w21, w22, w23, .int cn, .ref ra, w26, w27, w28, w29, w30, w31, w32, w33, w34, w35, w36, w37, w38])), (ra, .inl (cI, 40, .inl f))] sz [.ref qm, .int g]) (vp_Si (fun r => r = nI (fa_cnt (fun t => decide (f t = g)) n))) 0 0 (fun _ => False) := by
  refine pw_met (cc := cX11_takesBy) (maxL := 4) (ret := (some .int)) (by decide) rfl (Nat.le_of_ble_eq_true rfl) ?_
  intro p e s m below meth c0 hx hb hr hml hown hlocks hnm hts hP hK hD hN hsz hA hS ls hl
  have hl : lv_has ls 4 [(0, .ref qm), (1, .int g)] := hl
  have hiX11 : ∀ w ∈ wsX110, w ∈ wsX11_takesBy := fun _ h => List.mem_cons_of_mem _ (List.mem_append_right _ (h))
  obtain ⟨Q, hQ⟩ : ∃ Q : State → Prop, Q = MQ below (vp_Si (fun r => r = nI (fa_cnt (fun t => decide (f t = g)) n))) ([.ref qm, .int g] : List Value).toArray s 0 0 (fun _ => False) := ⟨_, rfl⟩
  rw [← hQ]
  refine lv_iconst (v := 0) hx hb dX11_takesBy_0 (by decide) ?_
  refine lv_istore_n (lv' := [(2, .int 0), (0, .ref qm), (1, .int g)]) hx hb dX11_takesBy_1 rfl hl (by decide) rfl (fun ls hl => ?_)
  refine lv_iconst (v := 0) hx hb dX11_takesBy_2 (by decide) ?_
  refine lv_istore_n (lv' := [(3, .int 0), (2, .int 0), (0, .ref qm), (1, .int g)]) hx hb dX11_takesBy_3 rfl hl (by decide) rfl (fun ls hl => ?_)
  have loop4 : ∀ (ni4 i4 : Nat) (ls : Array Slot), i4 ≤ n → n + 1 ≤ i4 + ni4 → lv_has ls 4 [(3, .int (nI i4)), (2, .int (nI (fa_cnt (fun t => decide (f t = g)) i4))), (0, .ref qm), (1, .int g)] → W p l e ({ frames := 0, cells := 0, slots := 0, locals := 0 } : Room) s m ([.ref qm, .int g] : List Value).toArray below meth c0 s.heap [] 0 0 Q (F0 m 4 ls []) := by
    intro ni4
    induction ni4 with
    | zero =>
      intro i4  ls h1 h2
      exact absurd h2 (by omega)
    | succ ni4 ihi4 =>
      intro i4  ls hlei4 hni4  hl
      refine lv_iload_n hx hb dX11_takesBy_4 rfl (lv_at hl 0 rfl) ?_
      refine lv_aload_n hx hb dX11_takesBy_5 rfl (lv_at hl 2 rfl) ?_
      refine va_get (D := (dC, dI)) (ci := 11) (v := .int cn) (C := RX11) (T := TX11) (N := 39) hx hb hts hiX11 hown hK hP 0 rfl rfl 24 (by decide) (hts (.fieldLink RX11 188 "TributePitchesModel" "takes" "I") (List.mem_of_getElem? (i := 1) rfl)) (fun _ h9 => h9) rfl dX11_takesBy_6 ?_
      refine lv_icmp_ge (tgt := 36) hx hb dX11_takesBy_9 (by decide) (fun c1 => ?_) (fun c1 => ?_)
      · skip
        have hei4 : i4 = n := (Nat.lt_or_ge i4 n).elim (fun q => absurd c1 (by rw [hc]; exact nI_ge q (by omega))) (fun q => by omega)
        refine lv_iload_n hx hb dX11_takesBy_36 rfl (lv_at hl 1 rfl) ?_
        rw [hQ]
        exact W.iret (v := nI (fa_cnt (fun t => decide (f t = g)) i4)) hx hb hr (fun t ht hW => ⟨nI (fa_cnt (fun t => decide (f t = g)) i4), rfl, (by rw [hei4]), ht⟩) (fun q h => absurd h List.not_mem_nil) dX11_takesBy_37
      · skip
        have hlti4 : i4 < n := (Nat.lt_or_ge i4 n).elim id (fun q => absurd (by rw [hc]; exact nI_le q (by omega)) c1)
        refine lv_iload_n hx hb dX11_takesBy_12 rfl (lv_at hl 1 rfl) ?_
        refine lv_aload_n hx hb dX11_takesBy_13 rfl (lv_at hl 2 rfl) ?_
        refine va_get (D := (dC, dI)) (ci := 11) (v := .ref ra) (C := RX11) (T := TX11) (N := 39) hx hb hts hiX11 hown hK hP 0 rfl rfl 25 (by decide) (hts (.fieldLink RX11 56 "TributePitchesModel" "gangOf" "[I") (List.mem_of_getElem? (i := 2) rfl)) (fun _ h9 => h9) rfl dX11_takesBy_14 ?_
        refine lv_iload_n hx hb dX11_takesBy_17 rfl (lv_at hl 0 rfl) ?_
        refine va_iald hx hb hK hP 1 0 rfl rfl (vp_in_nI (by omega) (by omega)) dX11_takesBy_18 ?_
        refine lv_topi (fun v2 ev2 => ?_)
        have ev2 : v2 = f i4 := by rw [ev2]; rw [nI_clamp (by omega)]
        subst ev2
        refine lv_iload_n hx hb dX11_takesBy_19 rfl (lv_at hl 3 rfl) ?_
        refine lv_icmp_ne (tgt := 27) hx hb dX11_takesBy_20 (by decide) (fun c3 => ?_) (fun c3 => ?_)
        · skip
          refine lv_iconst (v := 0) hx hb dX11_takesBy_27 (by decide) ?_
          refine lv_iadd hx hb dX11_takesBy_28 ?_
          refine lv_topi (fun vs evs => ?_)
          have evs : vs = nI (fa_cnt (fun t => decide (f t = g)) (i4 + 1)) := by rw [evs]; rw [fa_cnt_no (by simp [c3])]; simp
          subst evs
          refine lv_istore_n (lv' := [(2, .int (nI (fa_cnt (fun t => decide (f t = g)) (i4 + 1)))), (3, .int (nI i4)), (0, .ref qm), (1, .int g)]) hx hb dX11_takesBy_29 rfl hl (by decide) rfl (fun ls hl => ?_)
          refine lv_iinc (v := nI (i4 + 1)) (lv' := [(3, .int (nI (i4 + 1))), (2, .int (nI (fa_cnt (fun t => decide (f t = g)) (i4 + 1)))), (0, .ref qm), (1, .int g)]) hx hb dX11_takesBy_30 hl (k := 1) rfl (nI_1 i4) (by decide) rfl (fun ls hl => ?_)
          refine lv_goto (tgt := 4) hx hb dX11_takesBy_33 (by decide) ?_
          exact ihi4 (i4 + 1)  ls (by omega) (by omega)  (lv_sub hl [0, 1, 2, 3] rfl)
        · skip
          refine lv_iconst (v := 1) hx hb dX11_takesBy_23 (by decide) ?_
          refine lv_goto (tgt := 28) hx hb dX11_takesBy_24 (by decide) ?_
          refine lv_iadd hx hb dX11_takesBy_28 ?_
          refine lv_topi (fun vs evs => ?_)
          have evs : vs = nI (fa_cnt (fun t => decide (f t = g)) (i4 + 1)) := by rw [evs]; rw [fa_cnt_yes (by simp [c3])]; exact nI_1 _
          subst evs
          refine lv_istore_n (lv' := [(2, .int (nI (fa_cnt (fun t => decide (f t = g)) (i4 + 1)))), (3, .int (nI i4)), (0, .ref qm), (1, .int g)]) hx hb dX11_takesBy_29 rfl hl (by decide) rfl (fun ls hl => ?_)
          refine lv_iinc (v := nI (i4 + 1)) (lv' := [(3, .int (nI (i4 + 1))), (2, .int (nI (fa_cnt (fun t => decide (f t = g)) (i4 + 1)))), (0, .ref qm), (1, .int g)]) hx hb dX11_takesBy_30 hl (k := 1) rfl (nI_1 i4) (by decide) rfl (fun ls hl => ?_)
          refine lv_goto (tgt := 4) hx hb dX11_takesBy_33 (by decide) ?_
          exact ihi4 (i4 + 1)  ls (by omega) (by omega)  (lv_sub hl [0, 1, 2, 3] rfl)
  exact loop4 (n + 1 - 0) 0  ls (by omega) (by omega)  (lv_sub hl [0, 1, 2, 3] rfl)
set_option maxHeartbeats 4000000 in
set_option maxRecDepth 100000 in
theorem r_X11_takesOn (l : Launch) (dC : Nat → ClassId) (dI : Nat → Nat → Nat) (cI : ClassId) (sz : Nat) (qm : Nat) (w0 : Value) (w1 : Value) (w2 : Value) (w3 : Value) (w4 : Value) (w5 : Value) (w6 : Value) (w7 : Value) (w8 : Value) (w9 : Value) (w10 : Value) (w11 : Value) (w12 : Value) (w13 : Value) (w14 : Value) (w15 : Value) (w16 : Value) (w17 : Value) (w18 : Value) (w19 : Value) (w20 : Value) (w21 : Value) (w22 : Value) (w23 : Value) (w25 : Value) (w27 : Value) (w28 : Value) (w29 : Value) (w30 : Value) (w31 : Value) (w32 : Value) (w33 : Value) (w34 : Value) (w35 : Value) (w36 : Value) (w37 : Value) (w38 : Value) (ra : Nat) (cn : Int32) (g : Int32) (n : Nat) (f : Nat → Int32) (hc : cn = nI n) (hn : n ≤ 40) : Met l yX11_takesOn wsX11_takesOn ({ frames := 0, cells := 0, slots := 0, locals := 0 }) (pw (dC, dI) [(cI, .int)] [(qm, .inr (11, [w0, w1, w2, w3, w4, w5, w6, w7, w8, w9, w10, w11, w12, w13, w14, w15, w16, w17, w18, w19, w20, w21, w22, w23, .int cn, w25, .ref ra, w27, w28, w29, w30, w31, w32, w33, w34, w35, w36, w37, w38])), (ra, .inl (cI, 40, .inl f))] sz [.ref qm, .int g]) (vp_Si (fun r => r = nI (fa_cnt (fun t => decide (f t = g)) n))) 0 0 (fun _ => False) := by
  refine pw_met (cc := cX11_takesOn) (maxL := 4) (ret := (some .int)) (by decide) rfl (Nat.le_of_ble_eq_true rfl) ?_
  intro p e s m below meth c0 hx hb hr hml hown hlocks hnm hts hP hK hD hN hsz hA hS ls hl
  have hl : lv_has ls 4 [(0, .ref qm), (1, .int g)] := hl
  have hiX11 : ∀ w ∈ wsX110, w ∈ wsX11_takesOn := fun _ h => List.mem_cons_of_mem _ (List.mem_append_right _ (h))
  obtain ⟨Q, hQ⟩ : ∃ Q : State → Prop, Q = MQ below (vp_Si (fun r => r = nI (fa_cnt (fun t => decide (f t = g)) n))) ([.ref qm, .int g] : List Value).toArray s 0 0 (fun _ => False) := ⟨_, rfl⟩
  rw [← hQ]
  refine lv_iconst (v := 0) hx hb dX11_takesOn_0 (by decide) ?_
  refine lv_istore_n (lv' := [(2, .int 0), (0, .ref qm), (1, .int g)]) hx hb dX11_takesOn_1 rfl hl (by decide) rfl (fun ls hl => ?_)
  refine lv_iconst (v := 0) hx hb dX11_takesOn_2 (by decide) ?_
  refine lv_istore_n (lv' := [(3, .int 0), (2, .int 0), (0, .ref qm), (1, .int g)]) hx hb dX11_takesOn_3 rfl hl (by decide) rfl (fun ls hl => ?_)
  have loop4 : ∀ (ni4 i4 : Nat) (ls : Array Slot), i4 ≤ n → n + 1 ≤ i4 + ni4 → lv_has ls 4 [(3, .int (nI i4)), (2, .int (nI (fa_cnt (fun t => decide (f t = g)) i4))), (0, .ref qm), (1, .int g)] → W p l e ({ frames := 0, cells := 0, slots := 0, locals := 0 } : Room) s m ([.ref qm, .int g] : List Value).toArray below meth c0 s.heap [] 0 0 Q (F0 m 4 ls []) := by
    intro ni4
    induction ni4 with
    | zero =>
      intro i4  ls h1 h2
      exact absurd h2 (by omega)
    | succ ni4 ihi4 =>
      intro i4  ls hlei4 hni4  hl
      refine lv_iload_n hx hb dX11_takesOn_4 rfl (lv_at hl 0 rfl) ?_
      refine lv_aload_n hx hb dX11_takesOn_5 rfl (lv_at hl 2 rfl) ?_
      refine va_get (D := (dC, dI)) (ci := 11) (v := .int cn) (C := RX11) (T := TX11) (N := 39) hx hb hts hiX11 hown hK hP 0 rfl rfl 24 (by decide) (hts (.fieldLink RX11 188 "TributePitchesModel" "takes" "I") (List.mem_of_getElem? (i := 1) rfl)) (fun _ h9 => h9) rfl dX11_takesOn_6 ?_
      refine lv_icmp_ge (tgt := 36) hx hb dX11_takesOn_9 (by decide) (fun c1 => ?_) (fun c1 => ?_)
      · skip
        have hei4 : i4 = n := (Nat.lt_or_ge i4 n).elim (fun q => absurd c1 (by rw [hc]; exact nI_ge q (by omega))) (fun q => by omega)
        refine lv_iload_n hx hb dX11_takesOn_36 rfl (lv_at hl 1 rfl) ?_
        rw [hQ]
        exact W.iret (v := nI (fa_cnt (fun t => decide (f t = g)) i4)) hx hb hr (fun t ht hW => ⟨nI (fa_cnt (fun t => decide (f t = g)) i4), rfl, (by rw [hei4]), ht⟩) (fun q h => absurd h List.not_mem_nil) dX11_takesOn_37
      · skip
        have hlti4 : i4 < n := (Nat.lt_or_ge i4 n).elim id (fun q => absurd (by rw [hc]; exact nI_le q (by omega)) c1)
        refine lv_iload_n hx hb dX11_takesOn_12 rfl (lv_at hl 1 rfl) ?_
        refine lv_aload_n hx hb dX11_takesOn_13 rfl (lv_at hl 2 rfl) ?_
        refine va_get (D := (dC, dI)) (ci := 11) (v := .ref ra) (C := RX11) (T := TX11) (N := 39) hx hb hts hiX11 hown hK hP 0 rfl rfl 26 (by decide) (hts (.fieldLink RX11 59 "TributePitchesModel" "pitchOf" "[I") (List.mem_of_getElem? (i := 2) rfl)) (fun _ h9 => h9) rfl dX11_takesOn_14 ?_
        refine lv_iload_n hx hb dX11_takesOn_17 rfl (lv_at hl 0 rfl) ?_
        refine va_iald hx hb hK hP 1 0 rfl rfl (vp_in_nI (by omega) (by omega)) dX11_takesOn_18 ?_
        refine lv_topi (fun v2 ev2 => ?_)
        have ev2 : v2 = f i4 := by rw [ev2]; rw [nI_clamp (by omega)]
        subst ev2
        refine lv_iload_n hx hb dX11_takesOn_19 rfl (lv_at hl 3 rfl) ?_
        refine lv_icmp_ne (tgt := 27) hx hb dX11_takesOn_20 (by decide) (fun c3 => ?_) (fun c3 => ?_)
        · skip
          refine lv_iconst (v := 0) hx hb dX11_takesOn_27 (by decide) ?_
          refine lv_iadd hx hb dX11_takesOn_28 ?_
          refine lv_topi (fun vs evs => ?_)
          have evs : vs = nI (fa_cnt (fun t => decide (f t = g)) (i4 + 1)) := by rw [evs]; rw [fa_cnt_no (by simp [c3])]; simp
          subst evs
          refine lv_istore_n (lv' := [(2, .int (nI (fa_cnt (fun t => decide (f t = g)) (i4 + 1)))), (3, .int (nI i4)), (0, .ref qm), (1, .int g)]) hx hb dX11_takesOn_29 rfl hl (by decide) rfl (fun ls hl => ?_)
          refine lv_iinc (v := nI (i4 + 1)) (lv' := [(3, .int (nI (i4 + 1))), (2, .int (nI (fa_cnt (fun t => decide (f t = g)) (i4 + 1)))), (0, .ref qm), (1, .int g)]) hx hb dX11_takesOn_30 hl (k := 1) rfl (nI_1 i4) (by decide) rfl (fun ls hl => ?_)
          refine lv_goto (tgt := 4) hx hb dX11_takesOn_33 (by decide) ?_
          exact ihi4 (i4 + 1)  ls (by omega) (by omega)  (lv_sub hl [0, 1, 2, 3] rfl)
        · skip
          refine lv_iconst (v := 1) hx hb dX11_takesOn_23 (by decide) ?_
          refine lv_goto (tgt := 28) hx hb dX11_takesOn_24 (by decide) ?_
          refine lv_iadd hx hb dX11_takesOn_28 ?_
          refine lv_topi (fun vs evs => ?_)
          have evs : vs = nI (fa_cnt (fun t => decide (f t = g)) (i4 + 1)) := by rw [evs]; rw [fa_cnt_yes (by simp [c3])]; exact nI_1 _
          subst evs
          refine lv_istore_n (lv' := [(2, .int (nI (fa_cnt (fun t => decide (f t = g)) (i4 + 1)))), (3, .int (nI i4)), (0, .ref qm), (1, .int g)]) hx hb dX11_takesOn_29 rfl hl (by decide) rfl (fun ls hl => ?_)
          refine lv_iinc (v := nI (i4 + 1)) (lv' := [(3, .int (nI (i4 + 1))), (2, .int (nI (fa_cnt (fun t => decide (f t = g)) (i4 + 1)))), (0, .ref qm), (1, .int g)]) hx hb dX11_takesOn_30 hl (k := 1) rfl (nI_1 i4) (by decide) rfl (fun ls hl => ?_)
          refine lv_goto (tgt := 4) hx hb dX11_takesOn_33 (by decide) ?_
          exact ihi4 (i4 + 1)  ls (by omega) (by omega)  (lv_sub hl [0, 1, 2, 3] rfl)
  exact loop4 (n + 1 - 0) 0  ls (by omega) (by omega)  (lv_sub hl [0, 1, 2, 3] rfl)
set_option maxHeartbeats 4000000 in
set_option maxRecDepth 100000 in
theorem r_X11_parcelsOf (l : Launch) (dC : Nat → ClassId) (dI : Nat → Nat → Nat) (cI : ClassId) (sz : Nat) (qm : Nat) (w0 : Value) (w1 : Value) (w2 : Value) (w3 : Value) (w4 : Value) (w5 : Value) (w6 : Value) (w7 : Value) (w8 : Value) (w9 : Value) (w10 : Value) (w11 : Value) (w12 : Value) (w13 : Value) (w14 : Value) (w15 : Value) (w16 : Value) (w17 : Value) (w18 : Value) (w19 : Value) (w20 : Value) (w21 : Value) (w22 : Value) (w23 : Value) (w24 : Value) (w25 : Value) (w26 : Value) (w27 : Value) (w28 : Value) (w29 : Value) (w30 : Value) (w31 : Value) (w32 : Value) (w33 : Value) (w36 : Value) (w37 : Value) (w38 : Value) (ra : Nat) (cn : Int32) (g : Int32) (n : Nat) (f : Nat → Int32) (hc : cn = nI n) (hn : n ≤ 80) : Met l yX11_parcelsOf wsX11_parcelsOf ({ frames := 0, cells := 0, slots := 0, locals := 0 }) (pw (dC, dI) [(cI, .int)] [(qm, .inr (11, [w0, w1, w2, w3, w4, w5, w6, w7, w8, w9, w10, w11, w12, w13, w14, w15, w16, w17, w18, w19, w20, w21, w22, w23, w24, w25, w26, w27, w28, w29, w30, w31, w32, w33, .int cn, .ref ra, w36, w37, w38])), (ra, .inl (cI, 80, .inl f))] sz [.ref qm, .int g]) (vp_Si (fun r => r = nI (fa_cnt (fun t => decide (f t = g)) n))) 0 0 (fun _ => False) := by
  refine pw_met (cc := cX11_parcelsOf) (maxL := 4) (ret := (some .int)) (by decide) rfl (Nat.le_of_ble_eq_true rfl) ?_
  intro p e s m below meth c0 hx hb hr hml hown hlocks hnm hts hP hK hD hN hsz hA hS ls hl
  have hl : lv_has ls 4 [(0, .ref qm), (1, .int g)] := hl
  have hiX11 : ∀ w ∈ wsX110, w ∈ wsX11_parcelsOf := fun _ h => List.mem_cons_of_mem _ (List.mem_append_right _ (h))
  obtain ⟨Q, hQ⟩ : ∃ Q : State → Prop, Q = MQ below (vp_Si (fun r => r = nI (fa_cnt (fun t => decide (f t = g)) n))) ([.ref qm, .int g] : List Value).toArray s 0 0 (fun _ => False) := ⟨_, rfl⟩
  rw [← hQ]
  refine lv_iconst (v := 0) hx hb dX11_parcelsOf_0 (by decide) ?_
  refine lv_istore_n (lv' := [(2, .int 0), (0, .ref qm), (1, .int g)]) hx hb dX11_parcelsOf_1 rfl hl (by decide) rfl (fun ls hl => ?_)
  refine lv_iconst (v := 0) hx hb dX11_parcelsOf_2 (by decide) ?_
  refine lv_istore_n (lv' := [(3, .int 0), (2, .int 0), (0, .ref qm), (1, .int g)]) hx hb dX11_parcelsOf_3 rfl hl (by decide) rfl (fun ls hl => ?_)
  have loop4 : ∀ (ni4 i4 : Nat) (ls : Array Slot), i4 ≤ n → n + 1 ≤ i4 + ni4 → lv_has ls 4 [(3, .int (nI i4)), (2, .int (nI (fa_cnt (fun t => decide (f t = g)) i4))), (0, .ref qm), (1, .int g)] → W p l e ({ frames := 0, cells := 0, slots := 0, locals := 0 } : Room) s m ([.ref qm, .int g] : List Value).toArray below meth c0 s.heap [] 0 0 Q (F0 m 4 ls []) := by
    intro ni4
    induction ni4 with
    | zero =>
      intro i4  ls h1 h2
      exact absurd h2 (by omega)
    | succ ni4 ihi4 =>
      intro i4  ls hlei4 hni4  hl
      refine lv_iload_n hx hb dX11_parcelsOf_4 rfl (lv_at hl 0 rfl) ?_
      refine lv_aload_n hx hb dX11_parcelsOf_5 rfl (lv_at hl 2 rfl) ?_
      refine va_get (D := (dC, dI)) (ci := 11) (v := .int cn) (C := RX11) (T := TX11) (N := 39) hx hb hts hiX11 hown hK hP 0 rfl rfl 34 (by decide) (hts (.fieldLink RX11 217 "TributePitchesModel" "parcels" "I") (List.mem_of_getElem? (i := 1) rfl)) (fun _ h9 => h9) rfl dX11_parcelsOf_6 ?_
      refine lv_icmp_ge (tgt := 36) hx hb dX11_parcelsOf_9 (by decide) (fun c1 => ?_) (fun c1 => ?_)
      · skip
        have hei4 : i4 = n := (Nat.lt_or_ge i4 n).elim (fun q => absurd c1 (by rw [hc]; exact nI_ge q (by omega))) (fun q => by omega)
        refine lv_iload_n hx hb dX11_parcelsOf_36 rfl (lv_at hl 1 rfl) ?_
        rw [hQ]
        exact W.iret (v := nI (fa_cnt (fun t => decide (f t = g)) i4)) hx hb hr (fun t ht hW => ⟨nI (fa_cnt (fun t => decide (f t = g)) i4), rfl, (by rw [hei4]), ht⟩) (fun q h => absurd h List.not_mem_nil) dX11_parcelsOf_37
      · skip
        have hlti4 : i4 < n := (Nat.lt_or_ge i4 n).elim id (fun q => absurd (by rw [hc]; exact nI_le q (by omega)) c1)
        refine lv_iload_n hx hb dX11_parcelsOf_12 rfl (lv_at hl 1 rfl) ?_
        refine lv_aload_n hx hb dX11_parcelsOf_13 rfl (lv_at hl 2 rfl) ?_
        refine va_get (D := (dC, dI)) (ci := 11) (v := .ref ra) (C := RX11) (T := TX11) (N := 39) hx hb hts hiX11 hown hK hP 0 rfl rfl 35 (by decide) (hts (.fieldLink RX11 84 "TributePitchesModel" "parcelTake" "[I") (List.mem_of_getElem? (i := 2) rfl)) (fun _ h9 => h9) rfl dX11_parcelsOf_14 ?_
        refine lv_iload_n hx hb dX11_parcelsOf_17 rfl (lv_at hl 0 rfl) ?_
        refine va_iald hx hb hK hP 1 0 rfl rfl (vp_in_nI (by omega) (by omega)) dX11_parcelsOf_18 ?_
        refine lv_topi (fun v2 ev2 => ?_)
        have ev2 : v2 = f i4 := by rw [ev2]; rw [nI_clamp (by omega)]
        subst ev2
        refine lv_iload_n hx hb dX11_parcelsOf_19 rfl (lv_at hl 3 rfl) ?_
        refine lv_icmp_ne (tgt := 27) hx hb dX11_parcelsOf_20 (by decide) (fun c3 => ?_) (fun c3 => ?_)
        · skip
          refine lv_iconst (v := 0) hx hb dX11_parcelsOf_27 (by decide) ?_
          refine lv_iadd hx hb dX11_parcelsOf_28 ?_
          refine lv_topi (fun vs evs => ?_)
          have evs : vs = nI (fa_cnt (fun t => decide (f t = g)) (i4 + 1)) := by rw [evs]; rw [fa_cnt_no (by simp [c3])]; simp
          subst evs
          refine lv_istore_n (lv' := [(2, .int (nI (fa_cnt (fun t => decide (f t = g)) (i4 + 1)))), (3, .int (nI i4)), (0, .ref qm), (1, .int g)]) hx hb dX11_parcelsOf_29 rfl hl (by decide) rfl (fun ls hl => ?_)
          refine lv_iinc (v := nI (i4 + 1)) (lv' := [(3, .int (nI (i4 + 1))), (2, .int (nI (fa_cnt (fun t => decide (f t = g)) (i4 + 1)))), (0, .ref qm), (1, .int g)]) hx hb dX11_parcelsOf_30 hl (k := 1) rfl (nI_1 i4) (by decide) rfl (fun ls hl => ?_)
          refine lv_goto (tgt := 4) hx hb dX11_parcelsOf_33 (by decide) ?_
          exact ihi4 (i4 + 1)  ls (by omega) (by omega)  (lv_sub hl [0, 1, 2, 3] rfl)
        · skip
          refine lv_iconst (v := 1) hx hb dX11_parcelsOf_23 (by decide) ?_
          refine lv_goto (tgt := 28) hx hb dX11_parcelsOf_24 (by decide) ?_
          refine lv_iadd hx hb dX11_parcelsOf_28 ?_
          refine lv_topi (fun vs evs => ?_)
          have evs : vs = nI (fa_cnt (fun t => decide (f t = g)) (i4 + 1)) := by rw [evs]; rw [fa_cnt_yes (by simp [c3])]; exact nI_1 _
          subst evs
          refine lv_istore_n (lv' := [(2, .int (nI (fa_cnt (fun t => decide (f t = g)) (i4 + 1)))), (3, .int (nI i4)), (0, .ref qm), (1, .int g)]) hx hb dX11_parcelsOf_29 rfl hl (by decide) rfl (fun ls hl => ?_)
          refine lv_iinc (v := nI (i4 + 1)) (lv' := [(3, .int (nI (i4 + 1))), (2, .int (nI (fa_cnt (fun t => decide (f t = g)) (i4 + 1)))), (0, .ref qm), (1, .int g)]) hx hb dX11_parcelsOf_30 hl (k := 1) rfl (nI_1 i4) (by decide) rfl (fun ls hl => ?_)
          refine lv_goto (tgt := 4) hx hb dX11_parcelsOf_33 (by decide) ?_
          exact ihi4 (i4 + 1)  ls (by omega) (by omega)  (lv_sub hl [0, 1, 2, 3] rfl)
  exact loop4 (n + 1 - 0) 0  ls (by omega) (by omega)  (lv_sub hl [0, 1, 2, 3] rfl)
set_option maxHeartbeats 4000000 in
set_option maxRecDepth 100000 in
theorem r_X11_letTo (l : Launch) (dC : Nat → ClassId) (dI : Nat → Nat → Nat) (cI : ClassId) (cZ : ClassId) (sz : Nat) (qm : Nat) (w0 : Value) (w1 : Value) (w2 : Value) (w3 : Value) (w4 : Value) (w5 : Value) (w6 : Value) (w7 : Value) (w8 : Value) (w9 : Value) (w10 : Value) (w11 : Value) (w12 : Value) (w13 : Value) (w14 : Value) (w15 : Value) (w16 : Value) (w17 : Value) (w18 : Value) (w19 : Value) (w20 : Value) (w21 : Value) (w22 : Value) (w23 : Value) (w26 : Value) (w27 : Value) (w29 : Value) (w30 : Value) (w31 : Value) (w32 : Value) (w33 : Value) (w34 : Value) (w35 : Value) (w36 : Value) (w37 : Value) (w38 : Value) (ra : Nat) (rz : Nat) (z : Nat → Int32) (cn : Int32) (g : Int32) (n : Nat) (f : Nat → Int32) (hc : cn = nI n) (hn : n ≤ 40) : Met l yX11_letTo wsX11_letTo ({ frames := 0, cells := 0, slots := 0, locals := 0 }) (pw (dC, dI) [(cI, .int), (cZ, .boolean)] [(qm, .inr (11, [w0, w1, w2, w3, w4, w5, w6, w7, w8, w9, w10, w11, w12, w13, w14, w15, w16, w17, w18, w19, w20, w21, w22, w23, .int cn, .ref ra, w26, w27, .ref rz, w29, w30, w31, w32, w33, w34, w35, w36, w37, w38])), (ra, .inl (cI, 40, .inl f)), (rz, .inl (cZ, 40, .inl z))] sz [.ref qm, .int g]) (vp_Si (fun r => r = nI (fa_cnt (fun t => decide (f t = g ∧ z t = 0)) n))) 0 0 (fun _ => False) := by
  refine pw_met (cc := cX11_letTo) (maxL := 4) (ret := (some .int)) (by decide) rfl (Nat.le_of_ble_eq_true rfl) ?_
  intro p e s m below meth c0 hx hb hr hml hown hlocks hnm hts hP hK hD hN hsz hA hS ls hl
  have hl : lv_has ls 4 [(0, .ref qm), (1, .int g)] := hl
  have hiX11 : ∀ w ∈ wsX110, w ∈ wsX11_letTo := fun _ h => List.mem_cons_of_mem _ (List.mem_append_right _ (h))
  obtain ⟨Q, hQ⟩ : ∃ Q : State → Prop, Q = MQ below (vp_Si (fun r => r = nI (fa_cnt (fun t => decide (f t = g ∧ z t = 0)) n))) ([.ref qm, .int g] : List Value).toArray s 0 0 (fun _ => False) := ⟨_, rfl⟩
  rw [← hQ]
  refine lv_iconst (v := 0) hx hb dX11_letTo_0 (by decide) ?_
  refine lv_istore_n (lv' := [(2, .int 0), (0, .ref qm), (1, .int g)]) hx hb dX11_letTo_1 rfl hl (by decide) rfl (fun ls hl => ?_)
  refine lv_iconst (v := 0) hx hb dX11_letTo_2 (by decide) ?_
  refine lv_istore_n (lv' := [(3, .int 0), (2, .int 0), (0, .ref qm), (1, .int g)]) hx hb dX11_letTo_3 rfl hl (by decide) rfl (fun ls hl => ?_)
  have loop4 : ∀ (ni4 i4 : Nat) (ls : Array Slot), i4 ≤ n → n + 1 ≤ i4 + ni4 → lv_has ls 4 [(3, .int (nI i4)), (2, .int (nI (fa_cnt (fun t => decide (f t = g ∧ z t = 0)) i4))), (0, .ref qm), (1, .int g)] → W p l e ({ frames := 0, cells := 0, slots := 0, locals := 0 } : Room) s m ([.ref qm, .int g] : List Value).toArray below meth c0 s.heap [] 0 0 Q (F0 m 4 ls []) := by
    intro ni4
    induction ni4 with
    | zero =>
      intro i4  ls h1 h2
      exact absurd h2 (by omega)
    | succ ni4 ihi4 =>
      intro i4  ls hlei4 hni4  hl
      refine lv_iload_n hx hb dX11_letTo_4 rfl (lv_at hl 0 rfl) ?_
      refine lv_aload_n hx hb dX11_letTo_5 rfl (lv_at hl 2 rfl) ?_
      refine va_get (D := (dC, dI)) (ci := 11) (v := .int cn) (C := RX11) (T := TX11) (N := 39) hx hb hts hiX11 hown hK hP 0 rfl rfl 24 (by decide) (hts (.fieldLink RX11 188 "TributePitchesModel" "takes" "I") (List.mem_of_getElem? (i := 1) rfl)) (fun _ h9 => h9) rfl dX11_letTo_6 ?_
      refine lv_icmp_ge (tgt := 45) hx hb dX11_letTo_9 (by decide) (fun c1 => ?_) (fun c1 => ?_)
      · skip
        have hei4 : i4 = n := (Nat.lt_or_ge i4 n).elim (fun q => absurd c1 (by rw [hc]; exact nI_ge q (by omega))) (fun q => by omega)
        refine lv_iload_n hx hb dX11_letTo_45 rfl (lv_at hl 1 rfl) ?_
        rw [hQ]
        exact W.iret (v := nI (fa_cnt (fun t => decide (f t = g ∧ z t = 0)) i4)) hx hb hr (fun t ht hW => ⟨nI (fa_cnt (fun t => decide (f t = g ∧ z t = 0)) i4), rfl, (by rw [hei4]), ht⟩) (fun q h => absurd h List.not_mem_nil) dX11_letTo_46
      · skip
        have hlti4 : i4 < n := (Nat.lt_or_ge i4 n).elim id (fun q => absurd (by rw [hc]; exact nI_le q (by omega)) c1)
        refine lv_iload_n hx hb dX11_letTo_12 rfl (lv_at hl 1 rfl) ?_
        refine lv_aload_n hx hb dX11_letTo_13 rfl (lv_at hl 2 rfl) ?_
        refine va_get (D := (dC, dI)) (ci := 11) (v := .ref ra) (C := RX11) (T := TX11) (N := 39) hx hb hts hiX11 hown hK hP 0 rfl rfl 25 (by decide) (hts (.fieldLink RX11 56 "TributePitchesModel" "gangOf" "[I") (List.mem_of_getElem? (i := 2) rfl)) (fun _ h9 => h9) rfl dX11_letTo_14 ?_
        refine lv_iload_n hx hb dX11_letTo_17 rfl (lv_at hl 0 rfl) ?_
        refine va_iald hx hb hK hP 1 0 rfl rfl (vp_in_nI (by omega) (by omega)) dX11_letTo_18 ?_
        refine lv_topi (fun v2 ev2 => ?_)
        have ev2 : v2 = f i4 := by rw [ev2]; rw [nI_clamp (by omega)]
        subst ev2
        refine lv_iload_n hx hb dX11_letTo_19 rfl (lv_at hl 3 rfl) ?_
        refine lv_icmp_ne (tgt := 36) hx hb dX11_letTo_20 (by decide) (fun c3 => ?_) (fun c3 => ?_)
        · skip
          refine lv_iconst (v := 0) hx hb dX11_letTo_36 (by decide) ?_
          refine lv_iadd hx hb dX11_letTo_37 ?_
          refine lv_topi (fun vs evs => ?_)
          have evs : vs = nI (fa_cnt (fun t => decide (f t = g ∧ z t = 0)) (i4 + 1)) := by rw [evs]; rw [fa_cnt_no (by simp [c1, c3])]; simp
          subst evs
          refine lv_istore_n (lv' := [(2, .int (nI (fa_cnt (fun t => decide (f t = g ∧ z t = 0)) (i4 + 1)))), (3, .int (nI i4)), (0, .ref qm), (1, .int g)]) hx hb dX11_letTo_38 rfl hl (by decide) rfl (fun ls hl => ?_)
          refine lv_iinc (v := nI (i4 + 1)) (lv' := [(3, .int (nI (i4 + 1))), (2, .int (nI (fa_cnt (fun t => decide (f t = g ∧ z t = 0)) (i4 + 1)))), (0, .ref qm), (1, .int g)]) hx hb dX11_letTo_39 hl (k := 1) rfl (nI_1 i4) (by decide) rfl (fun ls hl => ?_)
          refine lv_goto (tgt := 4) hx hb dX11_letTo_42 (by decide) ?_
          exact ihi4 (i4 + 1)  ls (by omega) (by omega)  (lv_sub hl [0, 1, 2, 3] rfl)
        · skip
          refine lv_aload_n hx hb dX11_letTo_23 rfl (lv_at hl 2 rfl) ?_
          refine va_get (D := (dC, dI)) (ci := 11) (v := .ref rz) (C := RX11) (T := TX11) (N := 39) hx hb hts hiX11 hown hK hP 0 rfl rfl 28 (by decide) (hts (.fieldLink RX11 65 "TributePitchesModel" "isSettled" "[Z") (List.mem_of_getElem? (i := 3) rfl)) (fun _ h9 => h9) rfl dX11_letTo_24 ?_
          refine lv_iload_n hx hb dX11_letTo_27 rfl (lv_at hl 0 rfl) ?_
          refine va_zald hx hb hK hP 2 1 rfl rfl (vp_in_nI (by omega) (by omega)) dX11_letTo_28 ?_
          refine lv_topi (fun v4 ev4 => ?_)
          have ev4 : v4 = z i4 := by rw [ev4]; rw [nI_clamp (by omega)]
          subst ev4
          refine lv_if_ne (tgt := 36) hx hb dX11_letTo_29 (by decide) (fun c5 => ?_) (fun c5 => ?_)
          · skip
            refine lv_iconst (v := 0) hx hb dX11_letTo_36 (by decide) ?_
            refine lv_iadd hx hb dX11_letTo_37 ?_
            refine lv_topi (fun vs evs => ?_)
            have evs : vs = nI (fa_cnt (fun t => decide (f t = g ∧ z t = 0)) (i4 + 1)) := by rw [evs]; rw [fa_cnt_no (by simp [c3, c5])]; simp
            subst evs
            refine lv_istore_n (lv' := [(2, .int (nI (fa_cnt (fun t => decide (f t = g ∧ z t = 0)) (i4 + 1)))), (3, .int (nI i4)), (0, .ref qm), (1, .int g)]) hx hb dX11_letTo_38 rfl hl (by decide) rfl (fun ls hl => ?_)
            refine lv_iinc (v := nI (i4 + 1)) (lv' := [(3, .int (nI (i4 + 1))), (2, .int (nI (fa_cnt (fun t => decide (f t = g ∧ z t = 0)) (i4 + 1)))), (0, .ref qm), (1, .int g)]) hx hb dX11_letTo_39 hl (k := 1) rfl (nI_1 i4) (by decide) rfl (fun ls hl => ?_)
            refine lv_goto (tgt := 4) hx hb dX11_letTo_42 (by decide) ?_
            exact ihi4 (i4 + 1)  ls (by omega) (by omega)  (lv_sub hl [0, 1, 2, 3] rfl)
          · skip
            refine lv_iconst (v := 1) hx hb dX11_letTo_32 (by decide) ?_
            refine lv_goto (tgt := 37) hx hb dX11_letTo_33 (by decide) ?_
            refine lv_iadd hx hb dX11_letTo_37 ?_
            refine lv_topi (fun vs evs => ?_)
            have evs : vs = nI (fa_cnt (fun t => decide (f t = g ∧ z t = 0)) (i4 + 1)) := by rw [evs]; rw [fa_cnt_yes (by simp [c3, c5])]; exact nI_1 _
            subst evs
            refine lv_istore_n (lv' := [(2, .int (nI (fa_cnt (fun t => decide (f t = g ∧ z t = 0)) (i4 + 1)))), (3, .int (nI i4)), (0, .ref qm), (1, .int g)]) hx hb dX11_letTo_38 rfl hl (by decide) rfl (fun ls hl => ?_)
            refine lv_iinc (v := nI (i4 + 1)) (lv' := [(3, .int (nI (i4 + 1))), (2, .int (nI (fa_cnt (fun t => decide (f t = g ∧ z t = 0)) (i4 + 1)))), (0, .ref qm), (1, .int g)]) hx hb dX11_letTo_39 hl (k := 1) rfl (nI_1 i4) (by decide) rfl (fun ls hl => ?_)
            refine lv_goto (tgt := 4) hx hb dX11_letTo_42 (by decide) ?_
            exact ihi4 (i4 + 1)  ls (by omega) (by omega)  (lv_sub hl [0, 1, 2, 3] rfl)
  exact loop4 (n + 1 - 0) 0  ls (by omega) (by omega)  (lv_sub hl [0, 1, 2, 3] rfl)
set_option maxHeartbeats 4000000 in
set_option maxRecDepth 100000 in
theorem r_X11_takeOf (l : Launch) (dC : Nat → ClassId) (dI : Nat → Nat → Nat) (cI : ClassId) (cZ : ClassId) (sz : Nat) (qm : Nat) (w0 : Value) (w1 : Value) (w2 : Value) (w3 : Value) (w4 : Value) (w5 : Value) (w6 : Value) (w7 : Value) (w8 : Value) (w9 : Value) (w10 : Value) (w11 : Value) (w12 : Value) (w13 : Value) (w14 : Value) (w15 : Value) (w16 : Value) (w17 : Value) (w18 : Value) (w19 : Value) (w20 : Value) (w21 : Value) (w22 : Value) (w23 : Value) (w25 : Value) (w27 : Value) (w29 : Value) (w30 : Value) (w31 : Value) (w32 : Value) (w33 : Value) (w34 : Value) (w35 : Value) (w36 : Value) (w37 : Value) (w38 : Value) (ra : Nat) (rz : Nat) (z : Nat → Int32) (cn : Int32) (g : Int32) (n : Nat) (f : Nat → Int32) (hc : cn = nI n) (hn : n ≤ 40) : Met l yX11_takeOf wsX11_takeOf ({ frames := 0, cells := 0, slots := 0, locals := 0 }) (pw (dC, dI) [(cI, .int), (cZ, .boolean)] [(qm, .inr (11, [w0, w1, w2, w3, w4, w5, w6, w7, w8, w9, w10, w11, w12, w13, w14, w15, w16, w17, w18, w19, w20, w21, w22, w23, .int cn, w25, .ref ra, w27, .ref rz, w29, w30, w31, w32, w33, w34, w35, w36, w37, w38])), (ra, .inl (cI, 40, .inl f)), (rz, .inl (cZ, 40, .inl z))] sz [.ref qm, .int g]) (vp_Si (fun r => (r = -9 ∧ ∀ u, u < n → ¬ (f u = g ∧ z u = 0)) ∨ (∃ u, u < n ∧ r = nI u ∧ (f u = g ∧ z u = 0) ∧ ∀ v, v < u → ¬ (f v = g ∧ z v = 0)))) 0 0 (fun _ => False) := by
  refine pw_met (cc := cX11_takeOf) (maxL := 3) (ret := (some .int)) (by decide) rfl (Nat.le_of_ble_eq_true rfl) ?_
  intro p e s m below meth c0 hx hb hr hml hown hlocks hnm hts hP hK hD hN hsz hA hS ls hl
  have hl : lv_has ls 3 [(0, .ref qm), (1, .int g)] := hl
  have hiX11 : ∀ w ∈ wsX110, w ∈ wsX11_takeOf := fun _ h => List.mem_cons_of_mem _ (List.mem_append_right _ (h))
  obtain ⟨Q, hQ⟩ : ∃ Q : State → Prop, Q = MQ below (vp_Si (fun r => (r = -9 ∧ ∀ u, u < n → ¬ (f u = g ∧ z u = 0)) ∨ (∃ u, u < n ∧ r = nI u ∧ (f u = g ∧ z u = 0) ∧ ∀ v, v < u → ¬ (f v = g ∧ z v = 0)))) ([.ref qm, .int g] : List Value).toArray s 0 0 (fun _ => False) := ⟨_, rfl⟩
  rw [← hQ]
  refine lv_iconst (v := 0) hx hb dX11_takeOf_0 (by decide) ?_
  refine lv_istore_n (lv' := [(2, .int 0), (0, .ref qm), (1, .int g)]) hx hb dX11_takeOf_1 rfl hl (by decide) rfl (fun ls hl => ?_)
  have loop2 : ∀ (ni2 i2 : Nat) (ls : Array Slot), i2 ≤ n → n + 1 ≤ i2 + ni2 → (∀ u, u < i2 → ¬ (f u = g ∧ z u = 0)) → lv_has ls 3 [(2, .int (nI i2)), (0, .ref qm), (1, .int g)] → W p l e ({ frames := 0, cells := 0, slots := 0, locals := 0 } : Room) s m ([.ref qm, .int g] : List Value).toArray below meth c0 s.heap [] 0 0 Q (F0 m 2 ls []) := by
    intro ni2
    induction ni2 with
    | zero =>
      intro i2  ls h1 h2
      exact absurd h2 (by omega)
    | succ ni2 ihi2 =>
      intro i2  ls hlei2 hni2 hall hl
      refine lv_iload_n hx hb dX11_takeOf_2 rfl (lv_at hl 0 rfl) ?_
      refine lv_aload_n hx hb dX11_takeOf_3 rfl (lv_at hl 1 rfl) ?_
      refine va_get (D := (dC, dI)) (ci := 11) (v := .int cn) (C := RX11) (T := TX11) (N := 39) hx hb hts hiX11 hown hK hP 0 rfl rfl 24 (by decide) (hts (.fieldLink RX11 188 "TributePitchesModel" "takes" "I") (List.mem_of_getElem? (i := 1) rfl)) (fun _ h9 => h9) rfl dX11_takeOf_4 ?_
      refine lv_icmp_ge (tgt := 37) hx hb dX11_takeOf_7 (by decide) (fun c1 => ?_) (fun c1 => ?_)
      · skip
        have hei2 : i2 = n := (Nat.lt_or_ge i2 n).elim (fun q => absurd c1 (by rw [hc]; exact nI_ge q (by omega))) (fun q => by omega)
        refine lv_bipush (v := (-9)) hx hb dX11_takeOf_37 (by decide) ?_
        rw [hQ]
        exact W.iret (v := (-9)) hx hb hr (fun t ht hW => ⟨(-9), rfl, (Or.inl ⟨rfl, by rw [← hei2]; exact hall⟩), ht⟩) (fun q h => absurd h List.not_mem_nil) dX11_takeOf_39
      · skip
        have hlti2 : i2 < n := (Nat.lt_or_ge i2 n).elim id (fun q => absurd (by rw [hc]; exact nI_le q (by omega)) c1)
        refine lv_aload_n hx hb dX11_takeOf_10 rfl (lv_at hl 1 rfl) ?_
        refine va_get (D := (dC, dI)) (ci := 11) (v := .ref ra) (C := RX11) (T := TX11) (N := 39) hx hb hts hiX11 hown hK hP 0 rfl rfl 26 (by decide) (hts (.fieldLink RX11 59 "TributePitchesModel" "pitchOf" "[I") (List.mem_of_getElem? (i := 2) rfl)) (fun _ h9 => h9) rfl dX11_takeOf_11 ?_
        refine lv_iload_n hx hb dX11_takeOf_14 rfl (lv_at hl 0 rfl) ?_
        refine va_iald hx hb hK hP 1 0 rfl rfl (vp_in_nI (by omega) (by omega)) dX11_takeOf_15 ?_
        refine lv_topi (fun v2 ev2 => ?_)
        have ev2 : v2 = f i2 := by rw [ev2]; rw [nI_clamp (by omega)]
        subst ev2
        refine lv_iload_n hx hb dX11_takeOf_16 rfl (lv_at hl 2 rfl) ?_
        refine lv_icmp_ne (tgt := 31) hx hb dX11_takeOf_17 (by decide) (fun c3 => ?_) (fun c3 => ?_)
        · skip
          refine lv_iinc (v := nI (i2 + 1)) (lv' := [(2, .int (nI (i2 + 1))), (0, .ref qm), (1, .int g)]) hx hb dX11_takeOf_31 hl (k := 0) rfl (nI_1 i2) (by decide) rfl (fun ls hl => ?_)
          refine lv_goto (tgt := 2) hx hb dX11_takeOf_34 (by decide) ?_
          exact ihi2 (i2 + 1)  ls (by omega) (by omega) (fun u hu => (Nat.lt_or_ge u i2).elim (fun q => hall u q) (fun q => by have e9 : u = i2 := (by omega); rw [e9]; exact fun w => absurd w.1 c3)) (lv_sub hl [0, 1, 2] rfl)
        · skip
          refine lv_aload_n hx hb dX11_takeOf_20 rfl (lv_at hl 1 rfl) ?_
          refine va_get (D := (dC, dI)) (ci := 11) (v := .ref rz) (C := RX11) (T := TX11) (N := 39) hx hb hts hiX11 hown hK hP 0 rfl rfl 28 (by decide) (hts (.fieldLink RX11 65 "TributePitchesModel" "isSettled" "[Z") (List.mem_of_getElem? (i := 3) rfl)) (fun _ h9 => h9) rfl dX11_takeOf_21 ?_
          refine lv_iload_n hx hb dX11_takeOf_24 rfl (lv_at hl 0 rfl) ?_
          refine va_zald hx hb hK hP 2 1 rfl rfl (vp_in_nI (by omega) (by omega)) dX11_takeOf_25 ?_
          refine lv_topi (fun v4 ev4 => ?_)
          have ev4 : v4 = z i2 := by rw [ev4]; rw [nI_clamp (by omega)]
          subst ev4
          refine lv_if_ne (tgt := 31) hx hb dX11_takeOf_26 (by decide) (fun c5 => ?_) (fun c5 => ?_)
          · skip
            refine lv_iinc (v := nI (i2 + 1)) (lv' := [(2, .int (nI (i2 + 1))), (0, .ref qm), (1, .int g)]) hx hb dX11_takeOf_31 hl (k := 0) rfl (nI_1 i2) (by decide) rfl (fun ls hl => ?_)
            refine lv_goto (tgt := 2) hx hb dX11_takeOf_34 (by decide) ?_
            exact ihi2 (i2 + 1)  ls (by omega) (by omega) (fun u hu => (Nat.lt_or_ge u i2).elim (fun q => hall u q) (fun q => by have e9 : u = i2 := (by omega); rw [e9]; exact fun w => absurd w.2 c5)) (lv_sub hl [0, 1, 2] rfl)
          · skip
            refine lv_iload_n hx hb dX11_takeOf_29 rfl (lv_at hl 0 rfl) ?_
            rw [hQ]
            exact W.iret (v := nI i2) hx hb hr (fun t ht hW => ⟨nI i2, rfl, (Or.inr ⟨i2, hlti2, rfl, ⟨c3, c5⟩, hall⟩), ht⟩) (fun q h => absurd h List.not_mem_nil) dX11_takeOf_30
  exact loop2 (n + 1 - 0) 0  ls (by omega) (by omega) (fun u hu => absurd hu (Nat.not_lt_zero u)) (lv_sub hl [0, 1, 2] rfl)
set_option maxHeartbeats 4000000 in
set_option maxRecDepth 100000 in
theorem r_X11_worthOf (l : Launch) (dC : Nat → ClassId) (dI : Nat → Nat → Nat) (cI : ClassId) (sz : Nat) (qm : Nat) (w0 : Value) (w1 : Value) (w2 : Value) (w3 : Value) (w4 : Value) (w5 : Value) (w6 : Value) (w7 : Value) (w8 : Value) (w9 : Value) (w10 : Value) (w11 : Value) (w12 : Value) (w13 : Value) (w14 : Value) (w15 : Value) (w16 : Value) (w17 : Value) (w18 : Value) (w19 : Value) (w20 : Value) (w21 : Value) (w22 : Value) (w23 : Value) (w24 : Value) (w25 : Value) (w26 : Value) (w27 : Value) (w28 : Value) (w29 : Value) (w30 : Value) (w31 : Value) (w32 : Value) (w33 : Value) (w38 : Value) (ra : Nat) (rb : Nat) (rc : Nat) (cn : Int32) (g : Int32) (n : Nat) (f : Nat → Int32) (fa : Nat → Int32) (fb : Nat → Int32) (hc : cn = nI n) (hn : n ≤ 80) : Met l yX11_worthOf wsX11_worthOf ({ frames := 0, cells := 0, slots := 0, locals := 0 }) (pw (dC, dI) [(cI, .int)] [(qm, .inr (11, [w0, w1, w2, w3, w4, w5, w6, w7, w8, w9, w10, w11, w12, w13, w14, w15, w16, w17, w18, w19, w20, w21, w22, w23, w24, w25, w26, w27, w28, w29, w30, w31, w32, w33, .int cn, .ref ra, .ref rb, .ref rc, w38])), (ra, .inl (cI, 80, .inl f)), (rb, .inl (cI, 80, .inl fa)), (rc, .inl (cI, 80, .inl fb))] sz [.ref qm, .int g]) (vp_Sl (fun r => r = wsum f fa fb g n)) 0 0 (fun _ => False) := by
  refine pw_met (cc := cX11_worthOf) (maxL := 5) (ret := (some .long)) (by decide) rfl (Nat.le_of_ble_eq_true rfl) ?_
  intro p e s m below meth c0 hx hb hr hml hown hlocks hnm hts hP hK hD hN hsz hA hS ls hl
  have hl : lv_has ls 5 [(0, .ref qm), (1, .int g)] := hl
  have hiX11 : ∀ w ∈ wsX110, w ∈ wsX11_worthOf := fun _ h => List.mem_cons_of_mem _ (List.mem_append_right _ (h))
  obtain ⟨Q, hQ⟩ : ∃ Q : State → Prop, Q = MQ below (vp_Sl (fun r => r = wsum f fa fb g n)) ([.ref qm, .int g] : List Value).toArray s 0 0 (fun _ => False) := ⟨_, rfl⟩
  rw [← hQ]
  refine lv_lconst (v := 0) hx hb dX11_worthOf_0 (by decide) ?_
  refine lv_lstore_n (lv' := [(2, .long 0), (0, .ref qm), (1, .int g)]) hx hb dX11_worthOf_1 rfl hl (by decide) rfl (fun ls hl => ?_)
  refine lv_iconst (v := 0) hx hb dX11_worthOf_2 (by decide) ?_
  refine lv_istore (lv' := [(4, .int 0), (2, .long 0), (0, .ref qm), (1, .int g)]) hx hb dX11_worthOf_3 hl (by decide) rfl (fun ls hl => ?_)
  have loop5 : ∀ (ni5 i5 : Nat) (ls : Array Slot), i5 ≤ n → n + 1 ≤ i5 + ni5 → lv_has ls 5 [(4, .int (nI i5)), (2, .long (wsum f fa fb g i5)), (0, .ref qm), (1, .int g)] → W p l e ({ frames := 0, cells := 0, slots := 0, locals := 0 } : Room) s m ([.ref qm, .int g] : List Value).toArray below meth c0 s.heap [] 0 0 Q (F0 m 5 ls []) := by
    intro ni5
    induction ni5 with
    | zero =>
      intro i5  ls h1 h2
      exact absurd h2 (by omega)
    | succ ni5 ihi5 =>
      intro i5  ls hlei5 hni5  hl
      refine lv_iload hx hb dX11_worthOf_5 (lv_at hl 0 rfl) ?_
      refine lv_aload_n hx hb dX11_worthOf_7 rfl (lv_at hl 2 rfl) ?_
      refine va_get (D := (dC, dI)) (ci := 11) (v := .int cn) (C := RX11) (T := TX11) (N := 39) hx hb hts hiX11 hown hK hP 0 rfl rfl 34 (by decide) (hts (.fieldLink RX11 217 "TributePitchesModel" "parcels" "I") (List.mem_of_getElem? (i := 1) rfl)) (fun _ h9 => h9) rfl dX11_worthOf_8 ?_
      refine lv_icmp_ge (tgt := 55) hx hb dX11_worthOf_11 (by decide) (fun c1 => ?_) (fun c1 => ?_)
      · skip
        have hei5 : i5 = n := (Nat.lt_or_ge i5 n).elim (fun q => absurd c1 (by rw [hc]; exact nI_ge q (by omega))) (fun q => by omega)
        refine lv_lload_n hx hb dX11_worthOf_55 rfl (lv_at hl 1 rfl) ?_
        rw [hQ]
        exact W.lret (v := wsum f fa fb g i5) hx hb hr (fun t ht hW => ⟨wsum f fa fb g i5, rfl, (by rw [hei5]), ht⟩) (fun q h => absurd h List.not_mem_nil) dX11_worthOf_56
      · skip
        have hlti5 : i5 < n := (Nat.lt_or_ge i5 n).elim id (fun q => absurd (by rw [hc]; exact nI_le q (by omega)) c1)
        refine lv_lload_n hx hb dX11_worthOf_14 rfl (lv_at hl 1 rfl) ?_
        refine lv_aload_n hx hb dX11_worthOf_15 rfl (lv_at hl 2 rfl) ?_
        refine va_get (D := (dC, dI)) (ci := 11) (v := .ref ra) (C := RX11) (T := TX11) (N := 39) hx hb hts hiX11 hown hK hP 0 rfl rfl 35 (by decide) (hts (.fieldLink RX11 84 "TributePitchesModel" "parcelTake" "[I") (List.mem_of_getElem? (i := 2) rfl)) (fun _ h9 => h9) rfl dX11_worthOf_16 ?_
        refine lv_iload hx hb dX11_worthOf_19 (lv_at hl 0 rfl) ?_
        refine va_iald hx hb hK hP 1 0 rfl rfl (vp_in_nI (by omega) (by omega)) dX11_worthOf_21 ?_
        refine lv_topi (fun v2 ev2 => ?_)
        have ev2 : v2 = f i5 := by rw [ev2]; rw [nI_clamp (by omega)]
        subst ev2
        refine lv_iload_n hx hb dX11_worthOf_22 rfl (lv_at hl 3 rfl) ?_
        refine lv_icmp_ne (tgt := 46) hx hb dX11_worthOf_23 (by decide) (fun c3 => ?_) (fun c3 => ?_)
        · skip
          refine lv_lconst (v := 0) hx hb dX11_worthOf_46 (by decide) ?_
          refine lv_ladd hx hb dX11_worthOf_47 ?_
          refine lv_topl (fun vs evs => ?_)
          have evs : vs = wsum f fa fb g (i5 + 1) := by rw [evs]; rw [wsum, if_neg c3]
          subst evs
          refine lv_lstore_n (lv' := [(2, .long (wsum f fa fb g (i5 + 1))), (4, .int (nI i5)), (0, .ref qm), (1, .int g)]) hx hb dX11_worthOf_48 rfl hl (by decide) rfl (fun ls hl => ?_)
          refine lv_iinc (v := nI (i5 + 1)) (lv' := [(4, .int (nI (i5 + 1))), (2, .long (wsum f fa fb g (i5 + 1))), (0, .ref qm), (1, .int g)]) hx hb dX11_worthOf_49 hl (k := 1) rfl (nI_1 i5) (by decide) rfl (fun ls hl => ?_)
          refine lv_goto (tgt := 5) hx hb dX11_worthOf_52 (by decide) ?_
          exact ihi5 (i5 + 1)  ls (by omega) (by omega)  (lv_sub hl [0, 1, 2, 3] rfl)
        · skip
          refine lv_aload_n hx hb dX11_worthOf_26 rfl (lv_at hl 2 rfl) ?_
          refine va_get (D := (dC, dI)) (ci := 11) (v := .ref rb) (C := RX11) (T := TX11) (N := 39) hx hb hts hiX11 hown hK hP 0 rfl rfl 36 (by decide) (hts (.fieldLink RX11 87 "TributePitchesModel" "parcelTons" "[I") (List.mem_of_getElem? (i := 3) rfl)) (fun _ h9 => h9) rfl dX11_worthOf_27 ?_
          refine lv_iload hx hb dX11_worthOf_30 (lv_at hl 0 rfl) ?_
          refine va_iald hx hb hK hP 2 0 rfl rfl (vp_in_nI (by omega) (by omega)) dX11_worthOf_32 ?_
          refine lv_topi (fun v4 ev4 => ?_)
          have ev4 : v4 = fa i5 := by rw [ev4]; rw [nI_clamp (by omega)]
          subst ev4
          refine lv_i2l (v := (fa i5).toInt64) hx hb dX11_worthOf_33 rfl ?_
          refine lv_aload_n hx hb dX11_worthOf_34 rfl (lv_at hl 2 rfl) ?_
          refine va_get (D := (dC, dI)) (ci := 11) (v := .ref rc) (C := RX11) (T := TX11) (N := 39) hx hb hts hiX11 hown hK hP 0 rfl rfl 37 (by decide) (hts (.fieldLink RX11 90 "TributePitchesModel" "parcelGood" "[I") (List.mem_of_getElem? (i := 4) rfl)) (fun _ h9 => h9) rfl dX11_worthOf_35 ?_
          refine lv_iload hx hb dX11_worthOf_38 (lv_at hl 0 rfl) ?_
          refine va_iald hx hb hK hP 3 0 rfl rfl (vp_in_nI (by omega) (by omega)) dX11_worthOf_40 ?_
          refine lv_topi (fun v5 ev5 => ?_)
          have ev5 : v5 = fb i5 := by rw [ev5]; rw [nI_clamp (by omega)]
          subst ev5
          refine lv_i2l (v := (fb i5).toInt64) hx hb dX11_worthOf_41 rfl ?_
          refine lv_lmul hx hb dX11_worthOf_42 ?_
          refine lv_goto (tgt := 47) hx hb dX11_worthOf_43 (by decide) ?_
          refine lv_ladd hx hb dX11_worthOf_47 ?_
          refine lv_topl (fun vs evs => ?_)
          have evs : vs = wsum f fa fb g (i5 + 1) := by rw [evs]; rw [wsum, if_pos c3]
          subst evs
          refine lv_lstore_n (lv' := [(2, .long (wsum f fa fb g (i5 + 1))), (4, .int (nI i5)), (0, .ref qm), (1, .int g)]) hx hb dX11_worthOf_48 rfl hl (by decide) rfl (fun ls hl => ?_)
          refine lv_iinc (v := nI (i5 + 1)) (lv' := [(4, .int (nI (i5 + 1))), (2, .long (wsum f fa fb g (i5 + 1))), (0, .ref qm), (1, .int g)]) hx hb dX11_worthOf_49 hl (k := 1) rfl (nI_1 i5) (by decide) rfl (fun ls hl => ?_)
          refine lv_goto (tgt := 5) hx hb dX11_worthOf_52 (by decide) ?_
          exact ihi5 (i5 + 1)  ls (by omega) (by omega)  (lv_sub hl [0, 1, 2, 3] rfl)
  exact loop5 (n + 1 - 0) 0  ls (by omega) (by omega)  (lv_sub hl [0, 1, 2, 3] rfl)
def rtold (iv : Nat → Int32) (w : Int32) : Int32 := if w = 0 then iv 11 else if w = 1 then iv 17 else if w = 2 then iv 24 else if w = 3 then iv 34 else if w = 4 then iv 1 else if w = 5 then (if 0 ≤ iv 20 then iv 22 else -9) else if w = 6 then iv 20 else if w = 7 then (if 0 ≤ iv 20 then iv 21 else -9) else -2
theorem tb_out8 {w : Int32} (h0 : ¬ w = 0) (h1 : ¬ w = 1) (h2 : ¬ w = 2) (h3 : ¬ w = 3) (h4 : ¬ w = 4) (h5 : ¬ w = 5) (h6 : ¬ w = 6) (h7 : ¬ w = 7) : w.toInt < 0 ∨ 7 < w.toInt := by
  have e0 : ¬ w.toInt = 0 := fun q => h0 ((fa_eq _ _).mpr q)
  have e1 : ¬ w.toInt = 1 := fun q => h1 ((fa_eq _ _).mpr q)
  have e2 : ¬ w.toInt = 2 := fun q => h2 ((fa_eq _ _).mpr q)
  have e3 : ¬ w.toInt = 3 := fun q => h3 ((fa_eq _ _).mpr q)
  have e4 : ¬ w.toInt = 4 := fun q => h4 ((fa_eq _ _).mpr q)
  have e5 : ¬ w.toInt = 5 := fun q => h5 ((fa_eq _ _).mpr q)
  have e6 : ¬ w.toInt = 6 := fun q => h6 ((fa_eq _ _).mpr q)
  have e7 : ¬ w.toInt = 7 := fun q => h7 ((fa_eq _ _).mpr q)
  omega
def gr_r (k g : Int32) : Int32 := if k = 0 then 10 * g else if k = 2 then 7 else 6
def gr_t (k t : Int32) : Int32 := if k = 0 then 31 * t + 4 else if k = 2 then 31 * (31 * t + 6) + 5 else 31 * t + 5
set_option maxHeartbeats 4000000 in
set_option maxRecDepth 100000 in
theorem r_X11_traced (l : Launch) (dC : Nat → ClassId) (dI : Nat → Nat → Nat)  (sz : Nat) (qm : Nat) (w0 : Value) (w1 : Value) (w2 : Value) (w3 : Value) (w4 : Value) (w5 : Value) (w6 : Value) (w7 : Value) (w8 : Value) (w9 : Value) (w10 : Value) (w11 : Value) (w12 : Value) (w13 : Value) (w14 : Value) (w15 : Value) (w16 : Value) (w17 : Value) (w18 : Value) (w19 : Value) (w20 : Value) (w21 : Value) (w22 : Value) (w23 : Value) (w24 : Value) (w25 : Value) (w26 : Value) (w27 : Value) (w28 : Value) (w29 : Value) (w30 : Value) (w31 : Value) (w32 : Value) (w33 : Value) (w34 : Value) (w35 : Value) (w36 : Value) (w37 : Value) (tr : Int32) (k : Int32)  : Met l yX11_traced wsX11_traced ({ frames := 0, cells := 0, slots := 0, locals := 0 }) (pw (dC, dI) [] [(qm, .inr (11, [w0, w1, w2, w3, w4, w5, w6, w7, w8, w9, w10, w11, w12, w13, w14, w15, w16, w17, w18, w19, w20, w21, w22, w23, w24, w25, w26, w27, w28, w29, w30, w31, w32, w33, w34, w35, w36, w37, .int tr]))] sz [.ref qm, .int k]) (va_Qv (fun (_ : Unit) => True) (fun _ t => bw (dC, dI) [] (va_A [(qm, .inr (11, [w0, w1, w2, w3, w4, w5, w6, w7, w8, w9, w10, w11, w12, w13, w14, w15, w16, w17, w18, w19, w20, w21, w22, w23, w24, w25, w26, w27, w28, w29, w30, w31, w32, w33, w34, w35, w36, w37, .int tr]))] sz) [(qm, .inr (11, [w0, w1, w2, w3, w4, w5, w6, w7, w8, w9, w10, w11, w12, w13, w14, w15, w16, w17, w18, w19, w20, w21, w22, w23, w24, w25, w26, w27, w28, w29, w30, w31, w32, w33, w34, w35, w36, w37, .int ((31 * tr) + k)]))] t) (va_A [(qm, .inr (11, [w0, w1, w2, w3, w4, w5, w6, w7, w8, w9, w10, w11, w12, w13, w14, w15, w16, w17, w18, w19, w20, w21, w22, w23, w24, w25, w26, w27, w28, w29, w30, w31, w32, w33, w34, w35, w36, w37, .int tr]))] sz)) 0 0 (va_A [(qm, .inr (11, [w0, w1, w2, w3, w4, w5, w6, w7, w8, w9, w10, w11, w12, w13, w14, w15, w16, w17, w18, w19, w20, w21, w22, w23, w24, w25, w26, w27, w28, w29, w30, w31, w32, w33, w34, w35, w36, w37, .int tr]))] sz) := by
  refine pw_met (cc := cX11_traced) (maxL := 2) (ret := none) (by decide) rfl (Nat.le_of_ble_eq_true rfl) ?_
  intro p e s m below meth c0 hx hb hr hml hown hlocks hnm hts hP hK hD hN hsz hA hS ls hl
  subst hsz
  have hl : lv_has ls 2 [(0, .ref qm), (1, .int k)] := hl
  have hiX11 : ∀ w ∈ wsX110, w ∈ wsX11_traced := fun _ h => List.mem_cons_of_mem _ (List.mem_append_right _ (h))
  refine lv_aload_n hx hb dX11_traced_0 rfl (lv_at hl 0 rfl) ?_
  refine lv_bipush (v := 31) hx hb dX11_traced_1 (by decide) ?_
  refine lv_aload_n hx hb dX11_traced_3 rfl (lv_at hl 0 rfl) ?_
  refine va_get (D := (dC, dI)) (ci := 11) (v := .int tr) (C := RX11) (T := TX11) (N := 39) hx hb hts hiX11 hown hK hP 0 rfl rfl 38 (by decide) (hts (.fieldLink RX11 235 "TributePitchesModel" "trace" "I") (List.mem_of_getElem? (i := 1) rfl)) (fun _ h9 => h9) rfl dX11_traced_4 ?_
  refine lv_imul hx hb dX11_traced_7 ?_
  refine lv_iload_n hx hb dX11_traced_8 rfl (lv_at hl 1 rfl) ?_
  refine lv_iadd hx hb dX11_traced_9 ?_
  refine va_put (D := (dC, dI)) (ci := 11) (v := .int ((31 * tr) + k)) (ty := .int) (C := RX11) (T := TX11) (N := 39) hx hb hts hiX11 tyX11 tyX11_ok nmX11 hown hK hP hD hS 0 rfl rfl 38 (by decide) (hts (.fieldLink RX11 235 "TributePitchesModel" "trace" "I") (List.mem_of_getElem? (i := 1) rfl)) (fun _ h9 => h9) rfl (by decide +kernel) rfl rfl (Nat.le_of_ble_eq_true rfl) dX11_traced_10 (fun H locs hP hD hS => ?_)
  have hP : va_P (dC, dI) vwCl [(qm, .inr (11, [w0, w1, w2, w3, w4, w5, w6, w7, w8, w9, w10, w11, w12, w13, w14, w15, w16, w17, w18, w19, w20, w21, w22, w23, w24, w25, w26, w27, w28, w29, w30, w31, w32, w33, w34, w35, w36, w37, .int ((31 * tr) + k)]))] H := hP
  have hD : va_D _ [(qm, .inr (11, [w0, w1, w2, w3, w4, w5, w6, w7, w8, w9, w10, w11, w12, w13, w14, w15, w16, w17, w18, w19, w20, w21, w22, w23, w24, w25, w26, w27, w28, w29, w30, w31, w32, w33, w34, w35, w36, w37, .int ((31 * tr) + k)]))] := hD
  have hP9 := hP.sub (ws' := [(qm, .inr (11, [w0, w1, w2, w3, w4, w5, w6, w7, w8, w9, w10, w11, w12, w13, w14, w15, w16, w17, w18, w19, w20, w21, w22, w23, w24, w25, w26, w27, w28, w29, w30, w31, w32, w33, w34, w35, w36, w37, .int ((31 * tr) + k)]))]) [0] rfl
  have hD9 := hD.sub (ws' := [(qm, .inr (11, [w0, w1, w2, w3, w4, w5, w6, w7, w8, w9, w10, w11, w12, w13, w14, w15, w16, w17, w18, w19, w20, w21, w22, w23, w24, w25, w26, w27, w28, w29, w30, w31, w32, w33, w34, w35, w36, w37, .int ((31 * tr) + k)]))]) [0] (by decide) rfl
  have hK9 := hK.sub (tys' := []) [] rfl
  exact W.vret hx hb hr (fun t ht hW => ⟨⟨(), rfl, trivial, ⟨by rw [ht]; exact hP9, va_K.moved hW.alike hK9, hD9⟩⟩, hS.F ht⟩) hS.2.2 dX11_traced_13
set_option maxHeartbeats 4000000 in
set_option maxRecDepth 100000 in
theorem R_told (l : Launch) (dC : Nat → ClassId) (dI : Nat → Nat → Nat) (cI : ClassId) (cJ : ClassId) (cZ : ClassId) (sz : Nat) (qm : Nat) (ad : Nat → Nat) (iv : Nat → Int32) (ia : Nat → Nat → Int32) (la : Nat → Nat → Int64) (a0 : Int32) (hI : rinv iv ia la) : Met l yX11_told wsX11_told ({ frames := 3, cells := 0, slots := 0, locals := 90 }) (pw (dC, dI) [(cI, .int), (cJ, .long), (cZ, .boolean)] (rw qm cI cJ cZ ad iv ia la) sz [.ref qm, .int a0]) (vp_Si (fun r => r = rtold iv a0)) 0 0 (fun _ => False) := by
  refine pw_met (cc := cX11_told) (maxL := 2) (ret := (some .int)) (by decide) rfl (Nat.le_of_ble_eq_true rfl) ?_
  intro p e s m below meth c0 hx hb hr hml hown hlocks hnm hts hP hK hD hN hsz hA hS ls hl
  have hP : va_P (dC, dI) vwCl [(qm, .inr (11, [.int (iv 0), .int (iv 1), .ref (ad 2), .ref (ad 3), .ref (ad 4), .ref (ad 5), .int (iv 6), .ref (ad 7), .ref (ad 8), .ref (ad 9), .ref (ad 10), .int (iv 11), .ref (ad 12), .ref (ad 13), .ref (ad 14), .ref (ad 15), .ref (ad 16), .int (iv 17), .ref (ad 18), .ref (ad 19), .int (iv 20), .int (iv 21), .int (iv 22), .int (iv 23), .int (iv 24), .ref (ad 25), .ref (ad 26), .ref (ad 27), .ref (ad 28), .ref (ad 29), .ref (ad 30), .ref (ad 31), .ref (ad 32), .ref (ad 33), .int (iv 34), .ref (ad 35), .ref (ad 36), .ref (ad 37), .int (iv 38)])), (ad 2, .inl (cI, 48, .inl (ia 2))), (ad 3, .inl (cI, 48, .inl (ia 3))), (ad 4, .inl (cI, 48, .inl (ia 4))), (ad 5, .inl (cI, 48, .inl (ia 5))), (ad 7, .inl (cI, 4, .inl (ia 7))), (ad 8, .inl (cI, 4, .inl (ia 8))), (ad 9, .inl (cI, 192, .inl (ia 9))), (ad 10, .inl (cI, 48, .inl (ia 10))), (ad 12, .inl (cI, 12, .inl (ia 12))), (ad 13, .inl (cI, 12, .inl (ia 13))), (ad 14, .inl (cI, 12, .inl (ia 14))), (ad 15, .inl (cI, 12, .inl (ia 15))), (ad 16, .inl (cI, 12, .inl (ia 16))), (ad 18, .inl (cI, 8, .inl (ia 18))), (ad 19, .inl (cJ, 8, .inr (.inl (la 19)))), (ad 25, .inl (cI, 40, .inl (ia 25))), (ad 26, .inl (cI, 40, .inl (ia 26))), (ad 27, .inl (cI, 40, .inl (ia 27))), (ad 28, .inl (cZ, 40, .inl (ia 28))), (ad 29, .inl (cJ, 40, .inr (.inl (la 29)))), (ad 30, .inl (cJ, 40, .inr (.inl (la 30)))), (ad 31, .inl (cJ, 40, .inr (.inl (la 31)))), (ad 32, .inl (cJ, 40, .inr (.inl (la 32)))), (ad 33, .inl (cJ, 40, .inr (.inl (la 33)))), (ad 35, .inl (cI, 80, .inl (ia 35))), (ad 36, .inl (cI, 80, .inl (ia 36))), (ad 37, .inl (cI, 80, .inl (ia 37)))] s.heap := hP
  have hD : va_D (va_A (rw qm cI cJ cZ ad iv ia la) s.heap.size) [(qm, .inr (11, [.int (iv 0), .int (iv 1), .ref (ad 2), .ref (ad 3), .ref (ad 4), .ref (ad 5), .int (iv 6), .ref (ad 7), .ref (ad 8), .ref (ad 9), .ref (ad 10), .int (iv 11), .ref (ad 12), .ref (ad 13), .ref (ad 14), .ref (ad 15), .ref (ad 16), .int (iv 17), .ref (ad 18), .ref (ad 19), .int (iv 20), .int (iv 21), .int (iv 22), .int (iv 23), .int (iv 24), .ref (ad 25), .ref (ad 26), .ref (ad 27), .ref (ad 28), .ref (ad 29), .ref (ad 30), .ref (ad 31), .ref (ad 32), .ref (ad 33), .int (iv 34), .ref (ad 35), .ref (ad 36), .ref (ad 37), .int (iv 38)])), (ad 2, .inl (cI, 48, .inl (ia 2))), (ad 3, .inl (cI, 48, .inl (ia 3))), (ad 4, .inl (cI, 48, .inl (ia 4))), (ad 5, .inl (cI, 48, .inl (ia 5))), (ad 7, .inl (cI, 4, .inl (ia 7))), (ad 8, .inl (cI, 4, .inl (ia 8))), (ad 9, .inl (cI, 192, .inl (ia 9))), (ad 10, .inl (cI, 48, .inl (ia 10))), (ad 12, .inl (cI, 12, .inl (ia 12))), (ad 13, .inl (cI, 12, .inl (ia 13))), (ad 14, .inl (cI, 12, .inl (ia 14))), (ad 15, .inl (cI, 12, .inl (ia 15))), (ad 16, .inl (cI, 12, .inl (ia 16))), (ad 18, .inl (cI, 8, .inl (ia 18))), (ad 19, .inl (cJ, 8, .inr (.inl (la 19)))), (ad 25, .inl (cI, 40, .inl (ia 25))), (ad 26, .inl (cI, 40, .inl (ia 26))), (ad 27, .inl (cI, 40, .inl (ia 27))), (ad 28, .inl (cZ, 40, .inl (ia 28))), (ad 29, .inl (cJ, 40, .inr (.inl (la 29)))), (ad 30, .inl (cJ, 40, .inr (.inl (la 30)))), (ad 31, .inl (cJ, 40, .inr (.inl (la 31)))), (ad 32, .inl (cJ, 40, .inr (.inl (la 32)))), (ad 33, .inl (cJ, 40, .inr (.inl (la 33)))), (ad 35, .inl (cI, 80, .inl (ia 35))), (ad 36, .inl (cI, 80, .inl (ia 36))), (ad 37, .inl (cI, 80, .inl (ia 37)))] := hD
  have hl : lv_has ls 2 [(0, .ref qm), (1, .int a0)] := hl
  have hiX11 : ∀ w ∈ wsX110, w ∈ wsX11_told := fun _ h => List.mem_cons_of_mem _ (List.mem_append_right _ (h))
  refine lv_iload_n hx hb dX11_told_0 rfl (lv_at hl 1 rfl) ?_
  by_cases hw1 : a0 = 0
  · subst hw1
    refine lv_tableIn (off := 47) (tgt := 48) hx hb dX11_told_1 (by decide) (by decide) rfl (by decide) ?_
    refine lv_aload_n hx hb dX11_told_48 rfl (lv_at hl 0 rfl) ?_
    refine va_get (D := (dC, dI)) (ci := 11) (v := .int (iv 11)) (C := RX11) (T := TX11) (N := 39) hx hb hts hiX11 hown hK hP 0 rfl rfl 11 (by decide) (hts (.fieldLink RX11 170 "TributePitchesModel" "pitches" "I") (List.mem_of_getElem? (i := 1) rfl)) (fun _ h9 => h9) rfl dX11_told_49 ?_
    exact W.iret (v := iv 11) hx hb hr (fun t ht hW => ⟨iv 11, rfl, (by simp [rtold]), ht⟩) (fun q h => absurd h List.not_mem_nil) dX11_told_52
  by_cases hw2 : a0 = 1
  · subst hw2
    refine lv_tableIn (off := 52) (tgt := 53) hx hb dX11_told_1 (by decide) (by decide) rfl (by decide) ?_
    refine lv_aload_n hx hb dX11_told_53 rfl (lv_at hl 0 rfl) ?_
    refine va_get (D := (dC, dI)) (ci := 11) (v := .int (iv 17)) (C := RX11) (T := TX11) (N := 39) hx hb hts hiX11 hown hK hP 0 rfl rfl 17 (by decide) (hts (.fieldLink RX11 185 "TributePitchesModel" "gangs" "I") (List.mem_of_getElem? (i := 2) rfl)) (fun _ h9 => h9) rfl dX11_told_54 ?_
    exact W.iret (v := iv 17) hx hb hr (fun t ht hW => ⟨iv 17, rfl, (by simp [rtold]), ht⟩) (fun q h => absurd h List.not_mem_nil) dX11_told_57
  by_cases hw3 : a0 = 2
  · subst hw3
    refine lv_tableIn (off := 57) (tgt := 58) hx hb dX11_told_1 (by decide) (by decide) rfl (by decide) ?_
    refine lv_aload_n hx hb dX11_told_58 rfl (lv_at hl 0 rfl) ?_
    refine va_get (D := (dC, dI)) (ci := 11) (v := .int (iv 24)) (C := RX11) (T := TX11) (N := 39) hx hb hts hiX11 hown hK hP 0 rfl rfl 24 (by decide) (hts (.fieldLink RX11 188 "TributePitchesModel" "takes" "I") (List.mem_of_getElem? (i := 3) rfl)) (fun _ h9 => h9) rfl dX11_told_59 ?_
    exact W.iret (v := iv 24) hx hb hr (fun t ht hW => ⟨iv 24, rfl, (by simp [rtold]), ht⟩) (fun q h => absurd h List.not_mem_nil) dX11_told_62
  by_cases hw4 : a0 = 3
  · subst hw4
    refine lv_tableIn (off := 62) (tgt := 63) hx hb dX11_told_1 (by decide) (by decide) rfl (by decide) ?_
    refine lv_aload_n hx hb dX11_told_63 rfl (lv_at hl 0 rfl) ?_
    refine va_get (D := (dC, dI)) (ci := 11) (v := .int (iv 34)) (C := RX11) (T := TX11) (N := 39) hx hb hts hiX11 hown hK hP 0 rfl rfl 34 (by decide) (hts (.fieldLink RX11 217 "TributePitchesModel" "parcels" "I") (List.mem_of_getElem? (i := 4) rfl)) (fun _ h9 => h9) rfl dX11_told_64 ?_
    exact W.iret (v := iv 34) hx hb hr (fun t ht hW => ⟨iv 34, rfl, (by simp [rtold]), ht⟩) (fun q h => absurd h List.not_mem_nil) dX11_told_67
  by_cases hw5 : a0 = 4
  · subst hw5
    refine lv_tableIn (off := 67) (tgt := 68) hx hb dX11_told_1 (by decide) (by decide) rfl (by decide) ?_
    refine lv_aload_n hx hb dX11_told_68 rfl (lv_at hl 0 rfl) ?_
    refine va_get (D := (dC, dI)) (ci := 11) (v := .int (iv 1)) (C := RX11) (T := TX11) (N := 39) hx hb hts hiX11 hown hK hP 0 rfl rfl 1 (by decide) (hts (.fieldLink RX11 93 "TributePitchesModel" "far" "I") (List.mem_of_getElem? (i := 5) rfl)) (fun _ h9 => h9) rfl dX11_told_69 ?_
    exact W.iret (v := iv 1) hx hb hr (fun t ht hW => ⟨iv 1, rfl, (by simp [rtold]), ht⟩) (fun q h => absurd h List.not_mem_nil) dX11_told_72
  by_cases hw6 : a0 = 5
  · subst hw6
    refine lv_tableIn (off := 72) (tgt := 73) hx hb dX11_told_1 (by decide) (by decide) rfl (by decide) ?_
    refine lv_aload_n hx hb dX11_told_73 rfl (lv_at hl 0 rfl) ?_
    refine va_get (D := (dC, dI)) (ci := 11) (v := .int (iv 20)) (C := RX11) (T := TX11) (N := 39) hx hb hts hiX11 hown hK hP 0 rfl rfl 20 (by decide) (hts (.fieldLink RX11 97 "TributePitchesModel" "sold" "I") (List.mem_of_getElem? (i := 6) rfl)) (fun _ h9 => h9) rfl dX11_told_74 ?_
    refine lv_if_ge (tgt := 85) hx hb dX11_told_77 (by decide) (fun c7 => ?_) (fun c7 => ?_)
    · skip
      refine lv_aload_n hx hb dX11_told_85 rfl (lv_at hl 0 rfl) ?_
      refine va_get (D := (dC, dI)) (ci := 11) (v := .int (iv 22)) (C := RX11) (T := TX11) (N := 39) hx hb hts hiX11 hown hK hP 0 rfl rfl 22 (by decide) (hts (.fieldLink RX11 199 "TributePitchesModel" "bids" "I") (List.mem_of_getElem? (i := 7) rfl)) (fun _ h9 => h9) rfl dX11_told_86 ?_
      exact W.iret (v := iv 22) hx hb hr (fun t ht hW => ⟨iv 22, rfl, (by simp [rtold, c7]), ht⟩) (fun q h => absurd h List.not_mem_nil) dX11_told_89
    · skip
      refine lv_bipush (v := (-9)) hx hb dX11_told_80 (by decide) ?_
      refine lv_goto (tgt := 89) hx hb dX11_told_82 (by decide) ?_
      exact W.iret (v := (-9)) hx hb hr (fun t ht hW => ⟨(-9), rfl, (by simp [rtold, c7]), ht⟩) (fun q h => absurd h List.not_mem_nil) dX11_told_89
  by_cases hw8 : a0 = 6
  · subst hw8
    refine lv_tableIn (off := 89) (tgt := 90) hx hb dX11_told_1 (by decide) (by decide) rfl (by decide) ?_
    refine lv_aload_n hx hb dX11_told_90 rfl (lv_at hl 0 rfl) ?_
    refine va_get (D := (dC, dI)) (ci := 11) (v := .int (iv 20)) (C := RX11) (T := TX11) (N := 39) hx hb hts hiX11 hown hK hP 0 rfl rfl 20 (by decide) (hts (.fieldLink RX11 97 "TributePitchesModel" "sold" "I") (List.mem_of_getElem? (i := 6) rfl)) (fun _ h9 => h9) rfl dX11_told_91 ?_
    exact W.iret (v := iv 20) hx hb hr (fun t ht hW => ⟨iv 20, rfl, (by simp [rtold]), ht⟩) (fun q h => absurd h List.not_mem_nil) dX11_told_94
  by_cases hw9 : a0 = 7
  · subst hw9
    refine lv_tableIn (off := 94) (tgt := 95) hx hb dX11_told_1 (by decide) (by decide) rfl (by decide) ?_
    refine lv_aload_n hx hb dX11_told_95 rfl (lv_at hl 0 rfl) ?_
    refine va_get (D := (dC, dI)) (ci := 11) (v := .int (iv 20)) (C := RX11) (T := TX11) (N := 39) hx hb hts hiX11 hown hK hP 0 rfl rfl 20 (by decide) (hts (.fieldLink RX11 97 "TributePitchesModel" "sold" "I") (List.mem_of_getElem? (i := 6) rfl)) (fun _ h9 => h9) rfl dX11_told_96 ?_
    refine lv_if_ge (tgt := 107) hx hb dX11_told_99 (by decide) (fun c10 => ?_) (fun c10 => ?_)
    · skip
      refine lv_aload_n hx hb dX11_told_107 rfl (lv_at hl 0 rfl) ?_
      refine va_get (D := (dC, dI)) (ci := 11) (v := .int (iv 21)) (C := RX11) (T := TX11) (N := 39) hx hb hts hiX11 hown hK hP 0 rfl rfl 21 (by decide) (hts (.fieldLink RX11 196 "TributePitchesModel" "latest" "I") (List.mem_of_getElem? (i := 8) rfl)) (fun _ h9 => h9) rfl dX11_told_108 ?_
      exact W.iret (v := iv 21) hx hb hr (fun t ht hW => ⟨iv 21, rfl, (by simp [rtold, c10]), ht⟩) (fun q h => absurd h List.not_mem_nil) dX11_told_111
    · skip
      refine lv_bipush (v := (-9)) hx hb dX11_told_102 (by decide) ?_
      refine lv_goto (tgt := 111) hx hb dX11_told_104 (by decide) ?_
      exact W.iret (v := (-9)) hx hb hr (fun t ht hW => ⟨(-9), rfl, (by simp [rtold, c10]), ht⟩) (fun q h => absurd h List.not_mem_nil) dX11_told_111
  refine lv_tableOut (tgt := 112) hx hb dX11_told_1 (tb_out8 hw1 hw2 hw3 hw4 hw5 hw6 hw8 hw9) (by decide) ?_
  refine lv_bipush (v := (-2)) hx hb dX11_told_112 (by decide) ?_
  exact W.iret (v := (-2)) hx hb hr (fun t ht hW => ⟨(-2), rfl, (by simp [rtold, hw1, hw2, hw3, hw4, hw5, hw6, hw8, hw9]), ht⟩) (fun q h => absurd h List.not_mem_nil) dX11_told_114
set_option maxHeartbeats 4000000 in
set_option maxRecDepth 100000 in
theorem R_greet (l : Launch) (dC : Nat → ClassId) (dI : Nat → Nat → Nat) (cI : ClassId) (cJ : ClassId) (cZ : ClassId) (sz : Nat) (qm : Nat) (ad : Nat → Nat) (iv : Nat → Int32) (ia : Nat → Nat → Int32) (la : Nat → Nat → Int64) (g : Int32) (hI : rinv iv ia la) : Met l yX11_greet wsX11_greet ({ frames := 3, cells := 0, slots := 0, locals := 90 }) (pw (dC, dI) [(cI, .int), (cJ, .long), (cZ, .boolean)] (rw qm cI cJ cZ ad iv ia la) sz [.ref qm, .int g]) (va_Qi (fun r (u : RS) => rinv u.1 u.2.1 u.2.2 ∧ ∃ gc, gc ≤ 8 ∧ iv 17 = nI gc ∧ (((∀ j, j < gc → g ≠ nI j) ∧ r = -1 ∧ u = (iv, ia, la)) ∨ ∃ j, j < gc ∧ g = nI j ∧ r = gr_r (ia 18 j) (nI j) ∧ u = (upd iv 38 (gr_t (ia 18 j) (iv 38)), ia, la))) (fun (u : RS) t => bw (dC, dI) [(cI, .int), (cJ, .long), (cZ, .boolean)] (va_A (rw qm cI cJ cZ ad iv ia la) sz) (rw qm cI cJ cZ ad u.1 u.2.1 u.2.2) t) (va_A (rw qm cI cJ cZ ad iv ia la) sz)) 0 0 (va_A (rw qm cI cJ cZ ad iv ia la) sz) := by
  refine pw_met (cc := cX11_greet) (maxL := 2) (ret := (some .int)) (by decide) rfl (Nat.le_of_ble_eq_true rfl) ?_
  intro p e s m below meth c0 hx hb hr hml hown hlocks hnm hts hP hK hD hN hsz hA hS ls hl
  subst hsz
  have hP : va_P (dC, dI) vwCl [(qm, .inr (11, [.int (iv 0), .int (iv 1), .ref (ad 2), .ref (ad 3), .ref (ad 4), .ref (ad 5), .int (iv 6), .ref (ad 7), .ref (ad 8), .ref (ad 9), .ref (ad 10), .int (iv 11), .ref (ad 12), .ref (ad 13), .ref (ad 14), .ref (ad 15), .ref (ad 16), .int (iv 17), .ref (ad 18), .ref (ad 19), .int (iv 20), .int (iv 21), .int (iv 22), .int (iv 23), .int (iv 24), .ref (ad 25), .ref (ad 26), .ref (ad 27), .ref (ad 28), .ref (ad 29), .ref (ad 30), .ref (ad 31), .ref (ad 32), .ref (ad 33), .int (iv 34), .ref (ad 35), .ref (ad 36), .ref (ad 37), .int (iv 38)])), (ad 2, .inl (cI, 48, .inl (ia 2))), (ad 3, .inl (cI, 48, .inl (ia 3))), (ad 4, .inl (cI, 48, .inl (ia 4))), (ad 5, .inl (cI, 48, .inl (ia 5))), (ad 7, .inl (cI, 4, .inl (ia 7))), (ad 8, .inl (cI, 4, .inl (ia 8))), (ad 9, .inl (cI, 192, .inl (ia 9))), (ad 10, .inl (cI, 48, .inl (ia 10))), (ad 12, .inl (cI, 12, .inl (ia 12))), (ad 13, .inl (cI, 12, .inl (ia 13))), (ad 14, .inl (cI, 12, .inl (ia 14))), (ad 15, .inl (cI, 12, .inl (ia 15))), (ad 16, .inl (cI, 12, .inl (ia 16))), (ad 18, .inl (cI, 8, .inl (ia 18))), (ad 19, .inl (cJ, 8, .inr (.inl (la 19)))), (ad 25, .inl (cI, 40, .inl (ia 25))), (ad 26, .inl (cI, 40, .inl (ia 26))), (ad 27, .inl (cI, 40, .inl (ia 27))), (ad 28, .inl (cZ, 40, .inl (ia 28))), (ad 29, .inl (cJ, 40, .inr (.inl (la 29)))), (ad 30, .inl (cJ, 40, .inr (.inl (la 30)))), (ad 31, .inl (cJ, 40, .inr (.inl (la 31)))), (ad 32, .inl (cJ, 40, .inr (.inl (la 32)))), (ad 33, .inl (cJ, 40, .inr (.inl (la 33)))), (ad 35, .inl (cI, 80, .inl (ia 35))), (ad 36, .inl (cI, 80, .inl (ia 36))), (ad 37, .inl (cI, 80, .inl (ia 37)))] s.heap := hP
  have hD : va_D (va_A (rw qm cI cJ cZ ad iv ia la) s.heap.size) [(qm, .inr (11, [.int (iv 0), .int (iv 1), .ref (ad 2), .ref (ad 3), .ref (ad 4), .ref (ad 5), .int (iv 6), .ref (ad 7), .ref (ad 8), .ref (ad 9), .ref (ad 10), .int (iv 11), .ref (ad 12), .ref (ad 13), .ref (ad 14), .ref (ad 15), .ref (ad 16), .int (iv 17), .ref (ad 18), .ref (ad 19), .int (iv 20), .int (iv 21), .int (iv 22), .int (iv 23), .int (iv 24), .ref (ad 25), .ref (ad 26), .ref (ad 27), .ref (ad 28), .ref (ad 29), .ref (ad 30), .ref (ad 31), .ref (ad 32), .ref (ad 33), .int (iv 34), .ref (ad 35), .ref (ad 36), .ref (ad 37), .int (iv 38)])), (ad 2, .inl (cI, 48, .inl (ia 2))), (ad 3, .inl (cI, 48, .inl (ia 3))), (ad 4, .inl (cI, 48, .inl (ia 4))), (ad 5, .inl (cI, 48, .inl (ia 5))), (ad 7, .inl (cI, 4, .inl (ia 7))), (ad 8, .inl (cI, 4, .inl (ia 8))), (ad 9, .inl (cI, 192, .inl (ia 9))), (ad 10, .inl (cI, 48, .inl (ia 10))), (ad 12, .inl (cI, 12, .inl (ia 12))), (ad 13, .inl (cI, 12, .inl (ia 13))), (ad 14, .inl (cI, 12, .inl (ia 14))), (ad 15, .inl (cI, 12, .inl (ia 15))), (ad 16, .inl (cI, 12, .inl (ia 16))), (ad 18, .inl (cI, 8, .inl (ia 18))), (ad 19, .inl (cJ, 8, .inr (.inl (la 19)))), (ad 25, .inl (cI, 40, .inl (ia 25))), (ad 26, .inl (cI, 40, .inl (ia 26))), (ad 27, .inl (cI, 40, .inl (ia 27))), (ad 28, .inl (cZ, 40, .inl (ia 28))), (ad 29, .inl (cJ, 40, .inr (.inl (la 29)))), (ad 30, .inl (cJ, 40, .inr (.inl (la 30)))), (ad 31, .inl (cJ, 40, .inr (.inl (la 31)))), (ad 32, .inl (cJ, 40, .inr (.inl (la 32)))), (ad 33, .inl (cJ, 40, .inr (.inl (la 33)))), (ad 35, .inl (cI, 80, .inl (ia 35))), (ad 36, .inl (cI, 80, .inl (ia 36))), (ad 37, .inl (cI, 80, .inl (ia 37)))] := hD
  have hl : lv_has ls 2 [(0, .ref qm), (1, .int g)] := hl
  have hiX11 : ∀ w ∈ wsX110, w ∈ wsX11_greet := fun _ h => List.mem_cons_of_mem _ (List.mem_append_right _ (h))
  obtain ⟨pc, gc, tc, kc, hpc, hgc, htc, hkc, epc, egc, etc, ekc, hfar, hlh, hss, hsold, htk, hpk⟩ := id hI
  refine lv_aload_n hx hb dX11_greet_0 rfl (lv_at hl 0 rfl) ?_
  refine lv_iload_n hx hb dX11_greet_1 rfl (lv_at hl 1 rfl) ?_
  have hPc := hP.sub (ws' := [(qm, .inr (11, [.int (iv 0), .int (iv 1), .ref (ad 2), .ref (ad 3), .ref (ad 4), .ref (ad 5), .int (iv 6), .ref (ad 7), .ref (ad 8), .ref (ad 9), .ref (ad 10), .int (iv 11), .ref (ad 12), .ref (ad 13), .ref (ad 14), .ref (ad 15), .ref (ad 16), .int (iv 17), .ref (ad 18), .ref (ad 19), .int (iv 20), .int (iv 21), .int (iv 22), .int (iv 23), .int (iv 24), .ref (ad 25), .ref (ad 26), .ref (ad 27), .ref (ad 28), .ref (ad 29), .ref (ad 30), .ref (ad 31), .ref (ad 32), .ref (ad 33), .int (iv 34), .ref (ad 35), .ref (ad 36), .ref (ad 37), .int (iv 38)]))]) [0] rfl
  have hDc := hD.sub (ws' := [(qm, .inr (11, [.int (iv 0), .int (iv 1), .ref (ad 2), .ref (ad 3), .ref (ad 4), .ref (ad 5), .int (iv 6), .ref (ad 7), .ref (ad 8), .ref (ad 9), .ref (ad 10), .int (iv 11), .ref (ad 12), .ref (ad 13), .ref (ad 14), .ref (ad 15), .ref (ad 16), .int (iv 17), .ref (ad 18), .ref (ad 19), .int (iv 20), .int (iv 21), .int (iv 22), .int (iv 23), .int (iv 24), .ref (ad 25), .ref (ad 26), .ref (ad 27), .ref (ad 28), .ref (ad 29), .ref (ad 30), .ref (ad 31), .ref (ad 32), .ref (ad 33), .int (iv 34), .ref (ad 35), .ref (ad 36), .ref (ad 37), .int (iv 38)]))]) [0] (by decide) rfl
  have hKc := hK.sub (tys' := []) [] rfl
  refine vp_callSi (va_Run.run (va_runV (As := [.int g]) (rest := []) ⟨hx, hb, hml, hown, hts⟩ (r_X11_noGang l dC dI  _ qm (.int (iv 0)) (.int (iv 1)) (.ref (ad 2)) (.ref (ad 3)) (.ref (ad 4)) (.ref (ad 5)) (.int (iv 6)) (.ref (ad 7)) (.ref (ad 8)) (.ref (ad 9)) (.ref (ad 10)) (.int (iv 11)) (.ref (ad 12)) (.ref (ad 13)) (.ref (ad 14)) (.ref (ad 15)) (.ref (ad 16)) (.ref (ad 18)) (.ref (ad 19)) (.int (iv 20)) (.int (iv 21)) (.int (iv 22)) (.int (iv 23)) (.int (iv 24)) (.ref (ad 25)) (.ref (ad 26)) (.ref (ad 27)) (.ref (ad 28)) (.ref (ad 29)) (.ref (ad 30)) (.ref (ad 31)) (.ref (ad 32)) (.ref (ad 33)) (.int (iv 34)) (.ref (ad 35)) (.ref (ad 36)) (.ref (ad 37)) (.int (iv 38)) (iv 17) g gc egc (by omega)) (cwV 1 hts gX11_greet_X11_noGang rfl rfl rfl (by decide +kernel) ⟨Nat.le_of_ble_eq_true rfl, Nat.le_of_ble_eq_true rfl⟩) (pw_preV (va_recv hKc hPc (ci := 11) (q0 := 0) rfl rfl) hPc hKc hDc hN) rfl rfl hl.1 rfl (lv_room (Nat.le_of_ble_eq_true rfl)) dX11_greet_2 ⟨Nat.le_of_ble_eq_true rfl, Nat.le_of_ble_eq_true rfl⟩)) (fun r1 hr1 => ?_)
  have hr1 : (r1 = 1 ∧ ∀ j, j < gc → g ≠ nI j) ∨ (r1 = 0 ∧ ∃ j, j < gc ∧ g = nI j) := hr1
  rcases hr1 with ⟨er1, hnoa⟩ | ⟨er1, jg, hjg, ega⟩
  · subst er1
    refine lv_if_eq (tgt := 10) hx hb dX11_greet_5 (by decide) (fun c2 => ?_) (fun c2 => ?_)
    · exact absurd c2 (by decide)
    · skip
      refine lv_iconst (v := (-1)) hx hb dX11_greet_8 (by decide) ?_
      have hP9 : va_P (dC, dI) vwCl (rw qm cI cJ cZ ad iv ia la) s.heap := hP.sub [0, 1, 2, 3, 4, 5, 6, 7, 8, 9, 10, 11, 12, 13, 14, 15, 16, 17, 18, 19, 20, 21, 22, 23, 24, 25, 26, 27] rfl
      have hD9 : va_D (va_A (rw qm cI cJ cZ ad iv ia la) s.heap.size) (rw qm cI cJ cZ ad iv ia la) := hD.sub [0, 1, 2, 3, 4, 5, 6, 7, 8, 9, 10, 11, 12, 13, 14, 15, 16, 17, 18, 19, 20, 21, 22, 23, 24, 25, 26, 27] (by decide) rfl
      exact W.iret (v := (-1)) hx hb hr (fun t ht hW => ⟨⟨(-1), (iv, ia, la), rfl, ⟨hI, ⟨gc, hgc, egc, Or.inl ⟨hnoa, rfl, rfl⟩⟩⟩, by rw [ht]; exact hP9, va_K.moved hW.alike hK, hD9⟩, hS.F ht⟩) hS.2.2 dX11_greet_9
  · subst er1
    subst ega
    refine lv_if_eq (tgt := 10) hx hb dX11_greet_5 (by decide) (fun c3 => ?_) (fun c3 => ?_)
    · skip
      refine lv_aload_n hx hb dX11_greet_10 rfl (lv_at hl 0 rfl) ?_
      refine va_get (D := (dC, dI)) (ci := 11) (v := .ref (ad 18)) (C := RX11) (T := TX11) (N := 39) hx hb hts hiX11 hown hK hP 0 rfl rfl 18 (by decide) (hts (.fieldLink RX11 49 "TributePitchesModel" "sort" "[I") (List.mem_of_getElem? (i := 1) rfl)) (fun _ h9 => h9) rfl dX11_greet_11 ?_
      refine lv_iload_n hx hb dX11_greet_14 rfl (lv_at hl 1 rfl) ?_
      refine va_iald hx hb hK hP 14 0 rfl rfl (vp_in_nI (by omega) (by omega)) dX11_greet_15 ?_
      refine lv_topi (fun v4 ev4 => ?_)
      have ev4 : v4 = ia 18 jg := by rw [ev4]; rw [nI_clamp (by omega)]
      subst ev4
      refine lv_if_ne (tgt := 29) hx hb dX11_greet_16 (by decide) (fun c5 => ?_) (fun c5 => ?_)
      · skip
        refine lv_aload_n hx hb dX11_greet_29 rfl (lv_at hl 0 rfl) ?_
        refine va_get (D := (dC, dI)) (ci := 11) (v := .ref (ad 18)) (C := RX11) (T := TX11) (N := 39) hx hb hts hiX11 hown hK hP 0 rfl rfl 18 (by decide) (hts (.fieldLink RX11 49 "TributePitchesModel" "sort" "[I") (List.mem_of_getElem? (i := 1) rfl)) (fun _ h9 => h9) rfl dX11_greet_30 ?_
        refine lv_iload_n hx hb dX11_greet_33 rfl (lv_at hl 1 rfl) ?_
        refine va_iald hx hb hK hP 14 0 rfl rfl (vp_in_nI (by omega) (by omega)) dX11_greet_34 ?_
        refine lv_topi (fun v6 ev6 => ?_)
        have ev6 : v6 = ia 18 jg := by rw [ev6]; rw [nI_clamp (by omega)]
        subst ev6
        refine lv_iconst (v := 2) hx hb dX11_greet_35 (by decide) ?_
        refine lv_icmp_ne (tgt := 45) hx hb dX11_greet_36 (by decide) (fun c7 => ?_) (fun c7 => ?_)
        · skip
          refine lv_aload_n hx hb dX11_greet_45 rfl (lv_at hl 0 rfl) ?_
          refine lv_iconst (v := 5) hx hb dX11_greet_46 (by decide) ?_
          have hPc := hP.sub (ws' := [(qm, .inr (11, [.int (iv 0), .int (iv 1), .ref (ad 2), .ref (ad 3), .ref (ad 4), .ref (ad 5), .int (iv 6), .ref (ad 7), .ref (ad 8), .ref (ad 9), .ref (ad 10), .int (iv 11), .ref (ad 12), .ref (ad 13), .ref (ad 14), .ref (ad 15), .ref (ad 16), .int (iv 17), .ref (ad 18), .ref (ad 19), .int (iv 20), .int (iv 21), .int (iv 22), .int (iv 23), .int (iv 24), .ref (ad 25), .ref (ad 26), .ref (ad 27), .ref (ad 28), .ref (ad 29), .ref (ad 30), .ref (ad 31), .ref (ad 32), .ref (ad 33), .int (iv 34), .ref (ad 35), .ref (ad 36), .ref (ad 37), .int (iv 38)]))]) [0] rfl
          have hDc := hD.sub (ws' := [(qm, .inr (11, [.int (iv 0), .int (iv 1), .ref (ad 2), .ref (ad 3), .ref (ad 4), .ref (ad 5), .int (iv 6), .ref (ad 7), .ref (ad 8), .ref (ad 9), .ref (ad 10), .int (iv 11), .ref (ad 12), .ref (ad 13), .ref (ad 14), .ref (ad 15), .ref (ad 16), .int (iv 17), .ref (ad 18), .ref (ad 19), .int (iv 20), .int (iv 21), .int (iv 22), .int (iv 23), .int (iv 24), .ref (ad 25), .ref (ad 26), .ref (ad 27), .ref (ad 28), .ref (ad 29), .ref (ad 30), .ref (ad 31), .ref (ad 32), .ref (ad 33), .int (iv 34), .ref (ad 35), .ref (ad 36), .ref (ad 37), .int (iv 38)]))]) [0] (by decide) rfl
          have hKc := hK.sub (tys' := []) [] rfl
          have hFc := va_free (wc := [(qm, .inr (11, [.int (iv 0), .int (iv 1), .ref (ad 2), .ref (ad 3), .ref (ad 4), .ref (ad 5), .int (iv 6), .ref (ad 7), .ref (ad 8), .ref (ad 9), .ref (ad 10), .int (iv 11), .ref (ad 12), .ref (ad 13), .ref (ad 14), .ref (ad 15), .ref (ad 16), .int (iv 17), .ref (ad 18), .ref (ad 19), .int (iv 20), .int (iv 21), .int (iv 22), .int (iv 23), .int (iv 24), .ref (ad 25), .ref (ad 26), .ref (ad 27), .ref (ad 28), .ref (ad 29), .ref (ad 30), .ref (ad 31), .ref (ad 32), .ref (ad 33), .int (iv 34), .ref (ad 35), .ref (ad 36), .ref (ad 37), .int (iv 38)]))]) hD hS hA [0] rfl
          refine va_callv (va_runV (As := [.int 5]) (rest := []) ⟨hx, hb, hml, hown, hts⟩ (r_X11_traced l dC dI  _ qm (.int (iv 0)) (.int (iv 1)) (.ref (ad 2)) (.ref (ad 3)) (.ref (ad 4)) (.ref (ad 5)) (.int (iv 6)) (.ref (ad 7)) (.ref (ad 8)) (.ref (ad 9)) (.ref (ad 10)) (.int (iv 11)) (.ref (ad 12)) (.ref (ad 13)) (.ref (ad 14)) (.ref (ad 15)) (.ref (ad 16)) (.int (iv 17)) (.ref (ad 18)) (.ref (ad 19)) (.int (iv 20)) (.int (iv 21)) (.int (iv 22)) (.int (iv 23)) (.int (iv 24)) (.ref (ad 25)) (.ref (ad 26)) (.ref (ad 27)) (.ref (ad 28)) (.ref (ad 29)) (.ref (ad 30)) (.ref (ad 31)) (.ref (ad 32)) (.ref (ad 33)) (.int (iv 34)) (.ref (ad 35)) (.ref (ad 36)) (.ref (ad 37)) (iv 38) 5 ) (cwV 1 hts gX11_greet_X11_traced rfl rfl rfl (by decide +kernel) ⟨Nat.le_of_ble_eq_true rfl, Nat.le_of_ble_eq_true rfl⟩) (pw_preV (va_recv hKc hPc (ci := 11) (q0 := 0) rfl rfl) hPc hKc hDc hN) rfl rfl hl.1 rfl (lv_room (Nat.le_of_ble_eq_true rfl)) dX11_greet_47 ⟨Nat.le_of_ble_eq_true rfl, Nat.le_of_ble_eq_true rfl⟩) hS (fun q _ h => hFc q h) hFc (fun u t H1 locs ht hvm hw hB hz1 hk1 hS => ?_)
          obtain ⟨hP1, hK1, hD1⟩ := hB
          rw [ht] at hP1
          obtain ⟨hP, hD⟩ := va_join (wr := [(ad 2, .inl (cI, 48, .inl (ia 2))), (ad 3, .inl (cI, 48, .inl (ia 3))), (ad 4, .inl (cI, 48, .inl (ia 4))), (ad 5, .inl (cI, 48, .inl (ia 5))), (ad 7, .inl (cI, 4, .inl (ia 7))), (ad 8, .inl (cI, 4, .inl (ia 8))), (ad 9, .inl (cI, 192, .inl (ia 9))), (ad 10, .inl (cI, 48, .inl (ia 10))), (ad 12, .inl (cI, 12, .inl (ia 12))), (ad 13, .inl (cI, 12, .inl (ia 13))), (ad 14, .inl (cI, 12, .inl (ia 14))), (ad 15, .inl (cI, 12, .inl (ia 15))), (ad 16, .inl (cI, 12, .inl (ia 16))), (ad 18, .inl (cI, 8, .inl (ia 18))), (ad 19, .inl (cJ, 8, .inr (.inl (la 19)))), (ad 25, .inl (cI, 40, .inl (ia 25))), (ad 26, .inl (cI, 40, .inl (ia 26))), (ad 27, .inl (cI, 40, .inl (ia 27))), (ad 28, .inl (cZ, 40, .inl (ia 28))), (ad 29, .inl (cJ, 40, .inr (.inl (la 29)))), (ad 30, .inl (cJ, 40, .inr (.inl (la 30)))), (ad 31, .inl (cJ, 40, .inr (.inl (la 31)))), (ad 32, .inl (cJ, 40, .inr (.inl (la 32)))), (ad 33, .inl (cJ, 40, .inr (.inl (la 33)))), (ad 35, .inl (cI, 80, .inl (ia 35))), (ad 36, .inl (cI, 80, .inl (ia 36))), (ad 37, .inl (cI, 80, .inl (ia 37)))]) (w1 := [(qm, .inr (11, [.int (iv 0), .int (iv 1), .ref (ad 2), .ref (ad 3), .ref (ad 4), .ref (ad 5), .int (iv 6), .ref (ad 7), .ref (ad 8), .ref (ad 9), .ref (ad 10), .int (iv 11), .ref (ad 12), .ref (ad 13), .ref (ad 14), .ref (ad 15), .ref (ad 16), .int (iv 17), .ref (ad 18), .ref (ad 19), .int (iv 20), .int (iv 21), .int (iv 22), .int (iv 23), .int (iv 24), .ref (ad 25), .ref (ad 26), .ref (ad 27), .ref (ad 28), .ref (ad 29), .ref (ad 30), .ref (ad 31), .ref (ad 32), .ref (ad 33), .int (iv 34), .ref (ad 35), .ref (ad 36), .ref (ad 37), .int ((31 * (iv 38)) + 5)]))]) hP hD [0] [1, 2, 3, 4, 5, 6, 7, 8, 9, 10, 11, 12, 13, 14, 15, 16, 17, 18, 19, 20, 21, 22, 23, 24, 25, 26, 27] rfl rfl (by decide) (by decide) hk1 hFc hP1 hD1
          generalize H1 = H at hP hS ⊢
          have hP : va_P (dC, dI) vwCl [(ad 2, .inl (cI, 48, .inl (ia 2))), (ad 3, .inl (cI, 48, .inl (ia 3))), (ad 4, .inl (cI, 48, .inl (ia 4))), (ad 5, .inl (cI, 48, .inl (ia 5))), (ad 7, .inl (cI, 4, .inl (ia 7))), (ad 8, .inl (cI, 4, .inl (ia 8))), (ad 9, .inl (cI, 192, .inl (ia 9))), (ad 10, .inl (cI, 48, .inl (ia 10))), (ad 12, .inl (cI, 12, .inl (ia 12))), (ad 13, .inl (cI, 12, .inl (ia 13))), (ad 14, .inl (cI, 12, .inl (ia 14))), (ad 15, .inl (cI, 12, .inl (ia 15))), (ad 16, .inl (cI, 12, .inl (ia 16))), (ad 18, .inl (cI, 8, .inl (ia 18))), (ad 19, .inl (cJ, 8, .inr (.inl (la 19)))), (ad 25, .inl (cI, 40, .inl (ia 25))), (ad 26, .inl (cI, 40, .inl (ia 26))), (ad 27, .inl (cI, 40, .inl (ia 27))), (ad 28, .inl (cZ, 40, .inl (ia 28))), (ad 29, .inl (cJ, 40, .inr (.inl (la 29)))), (ad 30, .inl (cJ, 40, .inr (.inl (la 30)))), (ad 31, .inl (cJ, 40, .inr (.inl (la 31)))), (ad 32, .inl (cJ, 40, .inr (.inl (la 32)))), (ad 33, .inl (cJ, 40, .inr (.inl (la 33)))), (ad 35, .inl (cI, 80, .inl (ia 35))), (ad 36, .inl (cI, 80, .inl (ia 36))), (ad 37, .inl (cI, 80, .inl (ia 37))), (qm, .inr (11, [.int (iv 0), .int (iv 1), .ref (ad 2), .ref (ad 3), .ref (ad 4), .ref (ad 5), .int (iv 6), .ref (ad 7), .ref (ad 8), .ref (ad 9), .ref (ad 10), .int (iv 11), .ref (ad 12), .ref (ad 13), .ref (ad 14), .ref (ad 15), .ref (ad 16), .int (iv 17), .ref (ad 18), .ref (ad 19), .int (iv 20), .int (iv 21), .int (iv 22), .int (iv 23), .int (iv 24), .ref (ad 25), .ref (ad 26), .ref (ad 27), .ref (ad 28), .ref (ad 29), .ref (ad 30), .ref (ad 31), .ref (ad 32), .ref (ad 33), .int (iv 34), .ref (ad 35), .ref (ad 36), .ref (ad 37), .int ((31 * (iv 38)) + 5)]))] H := hP
          have hD : va_D _ [(ad 2, .inl (cI, 48, .inl (ia 2))), (ad 3, .inl (cI, 48, .inl (ia 3))), (ad 4, .inl (cI, 48, .inl (ia 4))), (ad 5, .inl (cI, 48, .inl (ia 5))), (ad 7, .inl (cI, 4, .inl (ia 7))), (ad 8, .inl (cI, 4, .inl (ia 8))), (ad 9, .inl (cI, 192, .inl (ia 9))), (ad 10, .inl (cI, 48, .inl (ia 10))), (ad 12, .inl (cI, 12, .inl (ia 12))), (ad 13, .inl (cI, 12, .inl (ia 13))), (ad 14, .inl (cI, 12, .inl (ia 14))), (ad 15, .inl (cI, 12, .inl (ia 15))), (ad 16, .inl (cI, 12, .inl (ia 16))), (ad 18, .inl (cI, 8, .inl (ia 18))), (ad 19, .inl (cJ, 8, .inr (.inl (la 19)))), (ad 25, .inl (cI, 40, .inl (ia 25))), (ad 26, .inl (cI, 40, .inl (ia 26))), (ad 27, .inl (cI, 40, .inl (ia 27))), (ad 28, .inl (cZ, 40, .inl (ia 28))), (ad 29, .inl (cJ, 40, .inr (.inl (la 29)))), (ad 30, .inl (cJ, 40, .inr (.inl (la 30)))), (ad 31, .inl (cJ, 40, .inr (.inl (la 31)))), (ad 32, .inl (cJ, 40, .inr (.inl (la 32)))), (ad 33, .inl (cJ, 40, .inr (.inl (la 33)))), (ad 35, .inl (cI, 80, .inl (ia 35))), (ad 36, .inl (cI, 80, .inl (ia 36))), (ad 37, .inl (cI, 80, .inl (ia 37))), (qm, .inr (11, [.int (iv 0), .int (iv 1), .ref (ad 2), .ref (ad 3), .ref (ad 4), .ref (ad 5), .int (iv 6), .ref (ad 7), .ref (ad 8), .ref (ad 9), .ref (ad 10), .int (iv 11), .ref (ad 12), .ref (ad 13), .ref (ad 14), .ref (ad 15), .ref (ad 16), .int (iv 17), .ref (ad 18), .ref (ad 19), .int (iv 20), .int (iv 21), .int (iv 22), .int (iv 23), .int (iv 24), .ref (ad 25), .ref (ad 26), .ref (ad 27), .ref (ad 28), .ref (ad 29), .ref (ad 30), .ref (ad 31), .ref (ad 32), .ref (ad 33), .int (iv 34), .ref (ad 35), .ref (ad 36), .ref (ad 37), .int ((31 * (iv 38)) + 5)]))] := hD
          refine lv_aload_n hx hb dX11_greet_50 rfl (lv_at hl 0 rfl) ?_
          refine va_get (D := (dC, dI)) (ci := 11) (v := .ref (ad 18)) (C := RX11) (T := TX11) (N := 39) hx hb hts hiX11 hown hK hP 27 rfl rfl 18 (by decide) (hts (.fieldLink RX11 49 "TributePitchesModel" "sort" "[I") (List.mem_of_getElem? (i := 1) rfl)) (fun _ h9 => h9) rfl dX11_greet_51 ?_
          refine lv_iload_n hx hb dX11_greet_54 rfl (lv_at hl 1 rfl) ?_
          refine va_iald hx hb hK hP 13 0 rfl rfl (vp_in_nI (by omega) (by omega)) dX11_greet_55 ?_
          refine lv_topi (fun v9 ev9 => ?_)
          have ev9 : v9 = ia 18 jg := by rw [ev9]; rw [nI_clamp (by omega)]
          subst ev9
          refine lv_iconst (v := 2) hx hb dX11_greet_56 (by decide) ?_
          refine lv_icmp_ne (tgt := 65) hx hb dX11_greet_57 (by decide) (fun c10 => ?_) (fun c10 => ?_)
          · skip
            refine lv_bipush (v := 6) hx hb dX11_greet_65 (by decide) ?_
            have hP9 : va_P (dC, dI) vwCl (rw qm cI cJ cZ ad (upd iv 38 ((31 * (iv 38)) + 5)) ia la) H := hP.sub [27, 0, 1, 2, 3, 4, 5, 6, 7, 8, 9, 10, 11, 12, 13, 14, 15, 16, 17, 18, 19, 20, 21, 22, 23, 24, 25, 26] rfl
            have hD9 : va_D (va_A (rw qm cI cJ cZ ad iv ia la) s.heap.size) (rw qm cI cJ cZ ad (upd iv 38 ((31 * (iv 38)) + 5)) ia la) := hD.sub [27, 0, 1, 2, 3, 4, 5, 6, 7, 8, 9, 10, 11, 12, 13, 14, 15, 16, 17, 18, 19, 20, 21, 22, 23, 24, 25, 26] (by decide) rfl
            exact W.iret (v := 6) hx hb hr (fun t ht hW => ⟨⟨6, (upd iv 38 ((31 * (iv 38)) + 5), ia, la), rfl, ⟨(by simpa [rinv, upd, va_up] using hI), ⟨gc, hgc, egc, Or.inr ⟨jg, hjg, rfl, (by first | (simp [gr_r, c3, c5, c7, c10]; done) | contradiction), (by first | (simp [gr_t, c3, c5, c7, c10]; done) | contradiction)⟩⟩⟩, by rw [ht]; exact hP9, va_K.moved hW.alike hK, hD9⟩, hS.F ht⟩) hS.2.2 dX11_greet_67
          · skip
            refine lv_bipush (v := 7) hx hb dX11_greet_60 (by decide) ?_
            refine lv_goto (tgt := 67) hx hb dX11_greet_62 (by decide) ?_
            have hP9 : va_P (dC, dI) vwCl (rw qm cI cJ cZ ad (upd iv 38 ((31 * (iv 38)) + 5)) ia la) H := hP.sub [27, 0, 1, 2, 3, 4, 5, 6, 7, 8, 9, 10, 11, 12, 13, 14, 15, 16, 17, 18, 19, 20, 21, 22, 23, 24, 25, 26] rfl
            have hD9 : va_D (va_A (rw qm cI cJ cZ ad iv ia la) s.heap.size) (rw qm cI cJ cZ ad (upd iv 38 ((31 * (iv 38)) + 5)) ia la) := hD.sub [27, 0, 1, 2, 3, 4, 5, 6, 7, 8, 9, 10, 11, 12, 13, 14, 15, 16, 17, 18, 19, 20, 21, 22, 23, 24, 25, 26] (by decide) rfl
            exact W.iret (v := 7) hx hb hr (fun t ht hW => ⟨⟨7, (upd iv 38 ((31 * (iv 38)) + 5), ia, la), rfl, ⟨(by simpa [rinv, upd, va_up] using hI), ⟨gc, hgc, egc, Or.inr ⟨jg, hjg, rfl, (by first | (simp [gr_r, c3, c5, c7, c10]; done) | contradiction), (by first | (simp [gr_t, c3, c5, c7, c10]; done) | contradiction)⟩⟩⟩, by rw [ht]; exact hP9, va_K.moved hW.alike hK, hD9⟩, hS.F ht⟩) hS.2.2 dX11_greet_67
        · skip
          refine lv_aload_n hx hb dX11_greet_39 rfl (lv_at hl 0 rfl) ?_
          refine lv_bipush (v := 6) hx hb dX11_greet_40 (by decide) ?_
          have hPc := hP.sub (ws' := [(qm, .inr (11, [.int (iv 0), .int (iv 1), .ref (ad 2), .ref (ad 3), .ref (ad 4), .ref (ad 5), .int (iv 6), .ref (ad 7), .ref (ad 8), .ref (ad 9), .ref (ad 10), .int (iv 11), .ref (ad 12), .ref (ad 13), .ref (ad 14), .ref (ad 15), .ref (ad 16), .int (iv 17), .ref (ad 18), .ref (ad 19), .int (iv 20), .int (iv 21), .int (iv 22), .int (iv 23), .int (iv 24), .ref (ad 25), .ref (ad 26), .ref (ad 27), .ref (ad 28), .ref (ad 29), .ref (ad 30), .ref (ad 31), .ref (ad 32), .ref (ad 33), .int (iv 34), .ref (ad 35), .ref (ad 36), .ref (ad 37), .int (iv 38)]))]) [0] rfl
          have hDc := hD.sub (ws' := [(qm, .inr (11, [.int (iv 0), .int (iv 1), .ref (ad 2), .ref (ad 3), .ref (ad 4), .ref (ad 5), .int (iv 6), .ref (ad 7), .ref (ad 8), .ref (ad 9), .ref (ad 10), .int (iv 11), .ref (ad 12), .ref (ad 13), .ref (ad 14), .ref (ad 15), .ref (ad 16), .int (iv 17), .ref (ad 18), .ref (ad 19), .int (iv 20), .int (iv 21), .int (iv 22), .int (iv 23), .int (iv 24), .ref (ad 25), .ref (ad 26), .ref (ad 27), .ref (ad 28), .ref (ad 29), .ref (ad 30), .ref (ad 31), .ref (ad 32), .ref (ad 33), .int (iv 34), .ref (ad 35), .ref (ad 36), .ref (ad 37), .int (iv 38)]))]) [0] (by decide) rfl
          have hKc := hK.sub (tys' := []) [] rfl
          have hFc := va_free (wc := [(qm, .inr (11, [.int (iv 0), .int (iv 1), .ref (ad 2), .ref (ad 3), .ref (ad 4), .ref (ad 5), .int (iv 6), .ref (ad 7), .ref (ad 8), .ref (ad 9), .ref (ad 10), .int (iv 11), .ref (ad 12), .ref (ad 13), .ref (ad 14), .ref (ad 15), .ref (ad 16), .int (iv 17), .ref (ad 18), .ref (ad 19), .int (iv 20), .int (iv 21), .int (iv 22), .int (iv 23), .int (iv 24), .ref (ad 25), .ref (ad 26), .ref (ad 27), .ref (ad 28), .ref (ad 29), .ref (ad 30), .ref (ad 31), .ref (ad 32), .ref (ad 33), .int (iv 34), .ref (ad 35), .ref (ad 36), .ref (ad 37), .int (iv 38)]))]) hD hS hA [0] rfl
          refine va_callv (va_runV (As := [.int 6]) (rest := []) ⟨hx, hb, hml, hown, hts⟩ (r_X11_traced l dC dI  _ qm (.int (iv 0)) (.int (iv 1)) (.ref (ad 2)) (.ref (ad 3)) (.ref (ad 4)) (.ref (ad 5)) (.int (iv 6)) (.ref (ad 7)) (.ref (ad 8)) (.ref (ad 9)) (.ref (ad 10)) (.int (iv 11)) (.ref (ad 12)) (.ref (ad 13)) (.ref (ad 14)) (.ref (ad 15)) (.ref (ad 16)) (.int (iv 17)) (.ref (ad 18)) (.ref (ad 19)) (.int (iv 20)) (.int (iv 21)) (.int (iv 22)) (.int (iv 23)) (.int (iv 24)) (.ref (ad 25)) (.ref (ad 26)) (.ref (ad 27)) (.ref (ad 28)) (.ref (ad 29)) (.ref (ad 30)) (.ref (ad 31)) (.ref (ad 32)) (.ref (ad 33)) (.int (iv 34)) (.ref (ad 35)) (.ref (ad 36)) (.ref (ad 37)) (iv 38) 6 ) (cwV 1 hts gX11_greet_X11_traced rfl rfl rfl (by decide +kernel) ⟨Nat.le_of_ble_eq_true rfl, Nat.le_of_ble_eq_true rfl⟩) (pw_preV (va_recv hKc hPc (ci := 11) (q0 := 0) rfl rfl) hPc hKc hDc hN) rfl rfl hl.1 rfl (lv_room (Nat.le_of_ble_eq_true rfl)) dX11_greet_42 ⟨Nat.le_of_ble_eq_true rfl, Nat.le_of_ble_eq_true rfl⟩) hS (fun q _ h => hFc q h) hFc (fun u t H1 locs ht hvm hw hB hz1 hk1 hS => ?_)
          obtain ⟨hP1, hK1, hD1⟩ := hB
          rw [ht] at hP1
          obtain ⟨hP, hD⟩ := va_join (wr := [(ad 2, .inl (cI, 48, .inl (ia 2))), (ad 3, .inl (cI, 48, .inl (ia 3))), (ad 4, .inl (cI, 48, .inl (ia 4))), (ad 5, .inl (cI, 48, .inl (ia 5))), (ad 7, .inl (cI, 4, .inl (ia 7))), (ad 8, .inl (cI, 4, .inl (ia 8))), (ad 9, .inl (cI, 192, .inl (ia 9))), (ad 10, .inl (cI, 48, .inl (ia 10))), (ad 12, .inl (cI, 12, .inl (ia 12))), (ad 13, .inl (cI, 12, .inl (ia 13))), (ad 14, .inl (cI, 12, .inl (ia 14))), (ad 15, .inl (cI, 12, .inl (ia 15))), (ad 16, .inl (cI, 12, .inl (ia 16))), (ad 18, .inl (cI, 8, .inl (ia 18))), (ad 19, .inl (cJ, 8, .inr (.inl (la 19)))), (ad 25, .inl (cI, 40, .inl (ia 25))), (ad 26, .inl (cI, 40, .inl (ia 26))), (ad 27, .inl (cI, 40, .inl (ia 27))), (ad 28, .inl (cZ, 40, .inl (ia 28))), (ad 29, .inl (cJ, 40, .inr (.inl (la 29)))), (ad 30, .inl (cJ, 40, .inr (.inl (la 30)))), (ad 31, .inl (cJ, 40, .inr (.inl (la 31)))), (ad 32, .inl (cJ, 40, .inr (.inl (la 32)))), (ad 33, .inl (cJ, 40, .inr (.inl (la 33)))), (ad 35, .inl (cI, 80, .inl (ia 35))), (ad 36, .inl (cI, 80, .inl (ia 36))), (ad 37, .inl (cI, 80, .inl (ia 37)))]) (w1 := [(qm, .inr (11, [.int (iv 0), .int (iv 1), .ref (ad 2), .ref (ad 3), .ref (ad 4), .ref (ad 5), .int (iv 6), .ref (ad 7), .ref (ad 8), .ref (ad 9), .ref (ad 10), .int (iv 11), .ref (ad 12), .ref (ad 13), .ref (ad 14), .ref (ad 15), .ref (ad 16), .int (iv 17), .ref (ad 18), .ref (ad 19), .int (iv 20), .int (iv 21), .int (iv 22), .int (iv 23), .int (iv 24), .ref (ad 25), .ref (ad 26), .ref (ad 27), .ref (ad 28), .ref (ad 29), .ref (ad 30), .ref (ad 31), .ref (ad 32), .ref (ad 33), .int (iv 34), .ref (ad 35), .ref (ad 36), .ref (ad 37), .int ((31 * (iv 38)) + 6)]))]) hP hD [0] [1, 2, 3, 4, 5, 6, 7, 8, 9, 10, 11, 12, 13, 14, 15, 16, 17, 18, 19, 20, 21, 22, 23, 24, 25, 26, 27] rfl rfl (by decide) (by decide) hk1 hFc hP1 hD1
          generalize H1 = H at hP hS ⊢
          have hP : va_P (dC, dI) vwCl [(ad 2, .inl (cI, 48, .inl (ia 2))), (ad 3, .inl (cI, 48, .inl (ia 3))), (ad 4, .inl (cI, 48, .inl (ia 4))), (ad 5, .inl (cI, 48, .inl (ia 5))), (ad 7, .inl (cI, 4, .inl (ia 7))), (ad 8, .inl (cI, 4, .inl (ia 8))), (ad 9, .inl (cI, 192, .inl (ia 9))), (ad 10, .inl (cI, 48, .inl (ia 10))), (ad 12, .inl (cI, 12, .inl (ia 12))), (ad 13, .inl (cI, 12, .inl (ia 13))), (ad 14, .inl (cI, 12, .inl (ia 14))), (ad 15, .inl (cI, 12, .inl (ia 15))), (ad 16, .inl (cI, 12, .inl (ia 16))), (ad 18, .inl (cI, 8, .inl (ia 18))), (ad 19, .inl (cJ, 8, .inr (.inl (la 19)))), (ad 25, .inl (cI, 40, .inl (ia 25))), (ad 26, .inl (cI, 40, .inl (ia 26))), (ad 27, .inl (cI, 40, .inl (ia 27))), (ad 28, .inl (cZ, 40, .inl (ia 28))), (ad 29, .inl (cJ, 40, .inr (.inl (la 29)))), (ad 30, .inl (cJ, 40, .inr (.inl (la 30)))), (ad 31, .inl (cJ, 40, .inr (.inl (la 31)))), (ad 32, .inl (cJ, 40, .inr (.inl (la 32)))), (ad 33, .inl (cJ, 40, .inr (.inl (la 33)))), (ad 35, .inl (cI, 80, .inl (ia 35))), (ad 36, .inl (cI, 80, .inl (ia 36))), (ad 37, .inl (cI, 80, .inl (ia 37))), (qm, .inr (11, [.int (iv 0), .int (iv 1), .ref (ad 2), .ref (ad 3), .ref (ad 4), .ref (ad 5), .int (iv 6), .ref (ad 7), .ref (ad 8), .ref (ad 9), .ref (ad 10), .int (iv 11), .ref (ad 12), .ref (ad 13), .ref (ad 14), .ref (ad 15), .ref (ad 16), .int (iv 17), .ref (ad 18), .ref (ad 19), .int (iv 20), .int (iv 21), .int (iv 22), .int (iv 23), .int (iv 24), .ref (ad 25), .ref (ad 26), .ref (ad 27), .ref (ad 28), .ref (ad 29), .ref (ad 30), .ref (ad 31), .ref (ad 32), .ref (ad 33), .int (iv 34), .ref (ad 35), .ref (ad 36), .ref (ad 37), .int ((31 * (iv 38)) + 6)]))] H := hP
          have hD : va_D _ [(ad 2, .inl (cI, 48, .inl (ia 2))), (ad 3, .inl (cI, 48, .inl (ia 3))), (ad 4, .inl (cI, 48, .inl (ia 4))), (ad 5, .inl (cI, 48, .inl (ia 5))), (ad 7, .inl (cI, 4, .inl (ia 7))), (ad 8, .inl (cI, 4, .inl (ia 8))), (ad 9, .inl (cI, 192, .inl (ia 9))), (ad 10, .inl (cI, 48, .inl (ia 10))), (ad 12, .inl (cI, 12, .inl (ia 12))), (ad 13, .inl (cI, 12, .inl (ia 13))), (ad 14, .inl (cI, 12, .inl (ia 14))), (ad 15, .inl (cI, 12, .inl (ia 15))), (ad 16, .inl (cI, 12, .inl (ia 16))), (ad 18, .inl (cI, 8, .inl (ia 18))), (ad 19, .inl (cJ, 8, .inr (.inl (la 19)))), (ad 25, .inl (cI, 40, .inl (ia 25))), (ad 26, .inl (cI, 40, .inl (ia 26))), (ad 27, .inl (cI, 40, .inl (ia 27))), (ad 28, .inl (cZ, 40, .inl (ia 28))), (ad 29, .inl (cJ, 40, .inr (.inl (la 29)))), (ad 30, .inl (cJ, 40, .inr (.inl (la 30)))), (ad 31, .inl (cJ, 40, .inr (.inl (la 31)))), (ad 32, .inl (cJ, 40, .inr (.inl (la 32)))), (ad 33, .inl (cJ, 40, .inr (.inl (la 33)))), (ad 35, .inl (cI, 80, .inl (ia 35))), (ad 36, .inl (cI, 80, .inl (ia 36))), (ad 37, .inl (cI, 80, .inl (ia 37))), (qm, .inr (11, [.int (iv 0), .int (iv 1), .ref (ad 2), .ref (ad 3), .ref (ad 4), .ref (ad 5), .int (iv 6), .ref (ad 7), .ref (ad 8), .ref (ad 9), .ref (ad 10), .int (iv 11), .ref (ad 12), .ref (ad 13), .ref (ad 14), .ref (ad 15), .ref (ad 16), .int (iv 17), .ref (ad 18), .ref (ad 19), .int (iv 20), .int (iv 21), .int (iv 22), .int (iv 23), .int (iv 24), .ref (ad 25), .ref (ad 26), .ref (ad 27), .ref (ad 28), .ref (ad 29), .ref (ad 30), .ref (ad 31), .ref (ad 32), .ref (ad 33), .int (iv 34), .ref (ad 35), .ref (ad 36), .ref (ad 37), .int ((31 * (iv 38)) + 6)]))] := hD
          refine lv_aload_n hx hb dX11_greet_45 rfl (lv_at hl 0 rfl) ?_
          refine lv_iconst (v := 5) hx hb dX11_greet_46 (by decide) ?_
          have hPc := hP.sub (ws' := [(qm, .inr (11, [.int (iv 0), .int (iv 1), .ref (ad 2), .ref (ad 3), .ref (ad 4), .ref (ad 5), .int (iv 6), .ref (ad 7), .ref (ad 8), .ref (ad 9), .ref (ad 10), .int (iv 11), .ref (ad 12), .ref (ad 13), .ref (ad 14), .ref (ad 15), .ref (ad 16), .int (iv 17), .ref (ad 18), .ref (ad 19), .int (iv 20), .int (iv 21), .int (iv 22), .int (iv 23), .int (iv 24), .ref (ad 25), .ref (ad 26), .ref (ad 27), .ref (ad 28), .ref (ad 29), .ref (ad 30), .ref (ad 31), .ref (ad 32), .ref (ad 33), .int (iv 34), .ref (ad 35), .ref (ad 36), .ref (ad 37), .int ((31 * (iv 38)) + 6)]))]) [27] rfl
          have hDc := hD.sub (ws' := [(qm, .inr (11, [.int (iv 0), .int (iv 1), .ref (ad 2), .ref (ad 3), .ref (ad 4), .ref (ad 5), .int (iv 6), .ref (ad 7), .ref (ad 8), .ref (ad 9), .ref (ad 10), .int (iv 11), .ref (ad 12), .ref (ad 13), .ref (ad 14), .ref (ad 15), .ref (ad 16), .int (iv 17), .ref (ad 18), .ref (ad 19), .int (iv 20), .int (iv 21), .int (iv 22), .int (iv 23), .int (iv 24), .ref (ad 25), .ref (ad 26), .ref (ad 27), .ref (ad 28), .ref (ad 29), .ref (ad 30), .ref (ad 31), .ref (ad 32), .ref (ad 33), .int (iv 34), .ref (ad 35), .ref (ad 36), .ref (ad 37), .int ((31 * (iv 38)) + 6)]))]) [27] (by decide) rfl
          have hKc := hK.sub (tys' := []) [] rfl
          have hFc := va_free (wc := [(qm, .inr (11, [.int (iv 0), .int (iv 1), .ref (ad 2), .ref (ad 3), .ref (ad 4), .ref (ad 5), .int (iv 6), .ref (ad 7), .ref (ad 8), .ref (ad 9), .ref (ad 10), .int (iv 11), .ref (ad 12), .ref (ad 13), .ref (ad 14), .ref (ad 15), .ref (ad 16), .int (iv 17), .ref (ad 18), .ref (ad 19), .int (iv 20), .int (iv 21), .int (iv 22), .int (iv 23), .int (iv 24), .ref (ad 25), .ref (ad 26), .ref (ad 27), .ref (ad 28), .ref (ad 29), .ref (ad 30), .ref (ad 31), .ref (ad 32), .ref (ad 33), .int (iv 34), .ref (ad 35), .ref (ad 36), .ref (ad 37), .int ((31 * (iv 38)) + 6)]))]) hD hS hA [27] rfl
          refine va_callv (va_runV (As := [.int 5]) (rest := []) ⟨hx, hb, hml, hown, hts⟩ (r_X11_traced l dC dI  _ qm (.int (iv 0)) (.int (iv 1)) (.ref (ad 2)) (.ref (ad 3)) (.ref (ad 4)) (.ref (ad 5)) (.int (iv 6)) (.ref (ad 7)) (.ref (ad 8)) (.ref (ad 9)) (.ref (ad 10)) (.int (iv 11)) (.ref (ad 12)) (.ref (ad 13)) (.ref (ad 14)) (.ref (ad 15)) (.ref (ad 16)) (.int (iv 17)) (.ref (ad 18)) (.ref (ad 19)) (.int (iv 20)) (.int (iv 21)) (.int (iv 22)) (.int (iv 23)) (.int (iv 24)) (.ref (ad 25)) (.ref (ad 26)) (.ref (ad 27)) (.ref (ad 28)) (.ref (ad 29)) (.ref (ad 30)) (.ref (ad 31)) (.ref (ad 32)) (.ref (ad 33)) (.int (iv 34)) (.ref (ad 35)) (.ref (ad 36)) (.ref (ad 37)) ((31 * (iv 38)) + 6) 5 ) (cwV 1 hts gX11_greet_X11_traced rfl rfl rfl (by decide +kernel) ⟨Nat.le_of_ble_eq_true rfl, Nat.le_of_ble_eq_true rfl⟩) (pw_preV (va_recv hKc hPc (ci := 11) (q0 := 0) rfl rfl) hPc hKc hDc hN) rfl rfl hl.1 rfl (lv_room (Nat.le_of_ble_eq_true rfl)) dX11_greet_47 ⟨Nat.le_of_ble_eq_true rfl, Nat.le_of_ble_eq_true rfl⟩) hS (fun q _ h => hFc q h) hFc (fun u t H1 locs ht hvm hw hB hz1 hk1 hS => ?_)
          obtain ⟨hP1, hK1, hD1⟩ := hB
          rw [ht] at hP1
          obtain ⟨hP, hD⟩ := va_join (wr := [(ad 2, .inl (cI, 48, .inl (ia 2))), (ad 3, .inl (cI, 48, .inl (ia 3))), (ad 4, .inl (cI, 48, .inl (ia 4))), (ad 5, .inl (cI, 48, .inl (ia 5))), (ad 7, .inl (cI, 4, .inl (ia 7))), (ad 8, .inl (cI, 4, .inl (ia 8))), (ad 9, .inl (cI, 192, .inl (ia 9))), (ad 10, .inl (cI, 48, .inl (ia 10))), (ad 12, .inl (cI, 12, .inl (ia 12))), (ad 13, .inl (cI, 12, .inl (ia 13))), (ad 14, .inl (cI, 12, .inl (ia 14))), (ad 15, .inl (cI, 12, .inl (ia 15))), (ad 16, .inl (cI, 12, .inl (ia 16))), (ad 18, .inl (cI, 8, .inl (ia 18))), (ad 19, .inl (cJ, 8, .inr (.inl (la 19)))), (ad 25, .inl (cI, 40, .inl (ia 25))), (ad 26, .inl (cI, 40, .inl (ia 26))), (ad 27, .inl (cI, 40, .inl (ia 27))), (ad 28, .inl (cZ, 40, .inl (ia 28))), (ad 29, .inl (cJ, 40, .inr (.inl (la 29)))), (ad 30, .inl (cJ, 40, .inr (.inl (la 30)))), (ad 31, .inl (cJ, 40, .inr (.inl (la 31)))), (ad 32, .inl (cJ, 40, .inr (.inl (la 32)))), (ad 33, .inl (cJ, 40, .inr (.inl (la 33)))), (ad 35, .inl (cI, 80, .inl (ia 35))), (ad 36, .inl (cI, 80, .inl (ia 36))), (ad 37, .inl (cI, 80, .inl (ia 37)))]) (w1 := [(qm, .inr (11, [.int (iv 0), .int (iv 1), .ref (ad 2), .ref (ad 3), .ref (ad 4), .ref (ad 5), .int (iv 6), .ref (ad 7), .ref (ad 8), .ref (ad 9), .ref (ad 10), .int (iv 11), .ref (ad 12), .ref (ad 13), .ref (ad 14), .ref (ad 15), .ref (ad 16), .int (iv 17), .ref (ad 18), .ref (ad 19), .int (iv 20), .int (iv 21), .int (iv 22), .int (iv 23), .int (iv 24), .ref (ad 25), .ref (ad 26), .ref (ad 27), .ref (ad 28), .ref (ad 29), .ref (ad 30), .ref (ad 31), .ref (ad 32), .ref (ad 33), .int (iv 34), .ref (ad 35), .ref (ad 36), .ref (ad 37), .int ((31 * ((31 * (iv 38)) + 6)) + 5)]))]) hP hD [27] [0, 1, 2, 3, 4, 5, 6, 7, 8, 9, 10, 11, 12, 13, 14, 15, 16, 17, 18, 19, 20, 21, 22, 23, 24, 25, 26] rfl rfl (by decide) (by decide) hk1 hFc hP1 hD1
          generalize H1 = H at hP hS ⊢
          have hP : va_P (dC, dI) vwCl [(ad 2, .inl (cI, 48, .inl (ia 2))), (ad 3, .inl (cI, 48, .inl (ia 3))), (ad 4, .inl (cI, 48, .inl (ia 4))), (ad 5, .inl (cI, 48, .inl (ia 5))), (ad 7, .inl (cI, 4, .inl (ia 7))), (ad 8, .inl (cI, 4, .inl (ia 8))), (ad 9, .inl (cI, 192, .inl (ia 9))), (ad 10, .inl (cI, 48, .inl (ia 10))), (ad 12, .inl (cI, 12, .inl (ia 12))), (ad 13, .inl (cI, 12, .inl (ia 13))), (ad 14, .inl (cI, 12, .inl (ia 14))), (ad 15, .inl (cI, 12, .inl (ia 15))), (ad 16, .inl (cI, 12, .inl (ia 16))), (ad 18, .inl (cI, 8, .inl (ia 18))), (ad 19, .inl (cJ, 8, .inr (.inl (la 19)))), (ad 25, .inl (cI, 40, .inl (ia 25))), (ad 26, .inl (cI, 40, .inl (ia 26))), (ad 27, .inl (cI, 40, .inl (ia 27))), (ad 28, .inl (cZ, 40, .inl (ia 28))), (ad 29, .inl (cJ, 40, .inr (.inl (la 29)))), (ad 30, .inl (cJ, 40, .inr (.inl (la 30)))), (ad 31, .inl (cJ, 40, .inr (.inl (la 31)))), (ad 32, .inl (cJ, 40, .inr (.inl (la 32)))), (ad 33, .inl (cJ, 40, .inr (.inl (la 33)))), (ad 35, .inl (cI, 80, .inl (ia 35))), (ad 36, .inl (cI, 80, .inl (ia 36))), (ad 37, .inl (cI, 80, .inl (ia 37))), (qm, .inr (11, [.int (iv 0), .int (iv 1), .ref (ad 2), .ref (ad 3), .ref (ad 4), .ref (ad 5), .int (iv 6), .ref (ad 7), .ref (ad 8), .ref (ad 9), .ref (ad 10), .int (iv 11), .ref (ad 12), .ref (ad 13), .ref (ad 14), .ref (ad 15), .ref (ad 16), .int (iv 17), .ref (ad 18), .ref (ad 19), .int (iv 20), .int (iv 21), .int (iv 22), .int (iv 23), .int (iv 24), .ref (ad 25), .ref (ad 26), .ref (ad 27), .ref (ad 28), .ref (ad 29), .ref (ad 30), .ref (ad 31), .ref (ad 32), .ref (ad 33), .int (iv 34), .ref (ad 35), .ref (ad 36), .ref (ad 37), .int ((31 * ((31 * (iv 38)) + 6)) + 5)]))] H := hP
          have hD : va_D _ [(ad 2, .inl (cI, 48, .inl (ia 2))), (ad 3, .inl (cI, 48, .inl (ia 3))), (ad 4, .inl (cI, 48, .inl (ia 4))), (ad 5, .inl (cI, 48, .inl (ia 5))), (ad 7, .inl (cI, 4, .inl (ia 7))), (ad 8, .inl (cI, 4, .inl (ia 8))), (ad 9, .inl (cI, 192, .inl (ia 9))), (ad 10, .inl (cI, 48, .inl (ia 10))), (ad 12, .inl (cI, 12, .inl (ia 12))), (ad 13, .inl (cI, 12, .inl (ia 13))), (ad 14, .inl (cI, 12, .inl (ia 14))), (ad 15, .inl (cI, 12, .inl (ia 15))), (ad 16, .inl (cI, 12, .inl (ia 16))), (ad 18, .inl (cI, 8, .inl (ia 18))), (ad 19, .inl (cJ, 8, .inr (.inl (la 19)))), (ad 25, .inl (cI, 40, .inl (ia 25))), (ad 26, .inl (cI, 40, .inl (ia 26))), (ad 27, .inl (cI, 40, .inl (ia 27))), (ad 28, .inl (cZ, 40, .inl (ia 28))), (ad 29, .inl (cJ, 40, .inr (.inl (la 29)))), (ad 30, .inl (cJ, 40, .inr (.inl (la 30)))), (ad 31, .inl (cJ, 40, .inr (.inl (la 31)))), (ad 32, .inl (cJ, 40, .inr (.inl (la 32)))), (ad 33, .inl (cJ, 40, .inr (.inl (la 33)))), (ad 35, .inl (cI, 80, .inl (ia 35))), (ad 36, .inl (cI, 80, .inl (ia 36))), (ad 37, .inl (cI, 80, .inl (ia 37))), (qm, .inr (11, [.int (iv 0), .int (iv 1), .ref (ad 2), .ref (ad 3), .ref (ad 4), .ref (ad 5), .int (iv 6), .ref (ad 7), .ref (ad 8), .ref (ad 9), .ref (ad 10), .int (iv 11), .ref (ad 12), .ref (ad 13), .ref (ad 14), .ref (ad 15), .ref (ad 16), .int (iv 17), .ref (ad 18), .ref (ad 19), .int (iv 20), .int (iv 21), .int (iv 22), .int (iv 23), .int (iv 24), .ref (ad 25), .ref (ad 26), .ref (ad 27), .ref (ad 28), .ref (ad 29), .ref (ad 30), .ref (ad 31), .ref (ad 32), .ref (ad 33), .int (iv 34), .ref (ad 35), .ref (ad 36), .ref (ad 37), .int ((31 * ((31 * (iv 38)) + 6)) + 5)]))] := hD
          refine lv_aload_n hx hb dX11_greet_50 rfl (lv_at hl 0 rfl) ?_
          refine va_get (D := (dC, dI)) (ci := 11) (v := .ref (ad 18)) (C := RX11) (T := TX11) (N := 39) hx hb hts hiX11 hown hK hP 27 rfl rfl 18 (by decide) (hts (.fieldLink RX11 49 "TributePitchesModel" "sort" "[I") (List.mem_of_getElem? (i := 1) rfl)) (fun _ h9 => h9) rfl dX11_greet_51 ?_
          refine lv_iload_n hx hb dX11_greet_54 rfl (lv_at hl 1 rfl) ?_
          refine va_iald hx hb hK hP 13 0 rfl rfl (vp_in_nI (by omega) (by omega)) dX11_greet_55 ?_
          refine lv_topi (fun v13 ev13 => ?_)
          have ev13 : v13 = ia 18 jg := by rw [ev13]; rw [nI_clamp (by omega)]
          subst ev13
          refine lv_iconst (v := 2) hx hb dX11_greet_56 (by decide) ?_
          refine lv_icmp_ne (tgt := 65) hx hb dX11_greet_57 (by decide) (fun c14 => ?_) (fun c14 => ?_)
          · skip
            refine lv_bipush (v := 6) hx hb dX11_greet_65 (by decide) ?_
            have hP9 : va_P (dC, dI) vwCl (rw qm cI cJ cZ ad (upd iv 38 ((31 * ((31 * (iv 38)) + 6)) + 5)) ia la) H := hP.sub [27, 0, 1, 2, 3, 4, 5, 6, 7, 8, 9, 10, 11, 12, 13, 14, 15, 16, 17, 18, 19, 20, 21, 22, 23, 24, 25, 26] rfl
            have hD9 : va_D (va_A (rw qm cI cJ cZ ad iv ia la) s.heap.size) (rw qm cI cJ cZ ad (upd iv 38 ((31 * ((31 * (iv 38)) + 6)) + 5)) ia la) := hD.sub [27, 0, 1, 2, 3, 4, 5, 6, 7, 8, 9, 10, 11, 12, 13, 14, 15, 16, 17, 18, 19, 20, 21, 22, 23, 24, 25, 26] (by decide) rfl
            exact W.iret (v := 6) hx hb hr (fun t ht hW => ⟨⟨6, (upd iv 38 ((31 * ((31 * (iv 38)) + 6)) + 5), ia, la), rfl, ⟨(by simpa [rinv, upd, va_up] using hI), ⟨gc, hgc, egc, Or.inr ⟨jg, hjg, rfl, (by first | (simp [gr_r, c3, c5, c7, c14]; done) | contradiction), (by first | (simp [gr_t, c3, c5, c7, c14]; done) | contradiction)⟩⟩⟩, by rw [ht]; exact hP9, va_K.moved hW.alike hK, hD9⟩, hS.F ht⟩) hS.2.2 dX11_greet_67
          · skip
            refine lv_bipush (v := 7) hx hb dX11_greet_60 (by decide) ?_
            refine lv_goto (tgt := 67) hx hb dX11_greet_62 (by decide) ?_
            have hP9 : va_P (dC, dI) vwCl (rw qm cI cJ cZ ad (upd iv 38 ((31 * ((31 * (iv 38)) + 6)) + 5)) ia la) H := hP.sub [27, 0, 1, 2, 3, 4, 5, 6, 7, 8, 9, 10, 11, 12, 13, 14, 15, 16, 17, 18, 19, 20, 21, 22, 23, 24, 25, 26] rfl
            have hD9 : va_D (va_A (rw qm cI cJ cZ ad iv ia la) s.heap.size) (rw qm cI cJ cZ ad (upd iv 38 ((31 * ((31 * (iv 38)) + 6)) + 5)) ia la) := hD.sub [27, 0, 1, 2, 3, 4, 5, 6, 7, 8, 9, 10, 11, 12, 13, 14, 15, 16, 17, 18, 19, 20, 21, 22, 23, 24, 25, 26] (by decide) rfl
            exact W.iret (v := 7) hx hb hr (fun t ht hW => ⟨⟨7, (upd iv 38 ((31 * ((31 * (iv 38)) + 6)) + 5), ia, la), rfl, ⟨(by simpa [rinv, upd, va_up] using hI), ⟨gc, hgc, egc, Or.inr ⟨jg, hjg, rfl, (by first | (simp [gr_r, c3, c5, c7, c14]; done) | contradiction), (by first | (simp [gr_t, c3, c5, c7, c14]; done) | contradiction)⟩⟩⟩, by rw [ht]; exact hP9, va_K.moved hW.alike hK, hD9⟩, hS.F ht⟩) hS.2.2 dX11_greet_67
      · skip
        refine lv_aload_n hx hb dX11_greet_19 rfl (lv_at hl 0 rfl) ?_
        refine lv_iconst (v := 4) hx hb dX11_greet_20 (by decide) ?_
        have hPc := hP.sub (ws' := [(qm, .inr (11, [.int (iv 0), .int (iv 1), .ref (ad 2), .ref (ad 3), .ref (ad 4), .ref (ad 5), .int (iv 6), .ref (ad 7), .ref (ad 8), .ref (ad 9), .ref (ad 10), .int (iv 11), .ref (ad 12), .ref (ad 13), .ref (ad 14), .ref (ad 15), .ref (ad 16), .int (iv 17), .ref (ad 18), .ref (ad 19), .int (iv 20), .int (iv 21), .int (iv 22), .int (iv 23), .int (iv 24), .ref (ad 25), .ref (ad 26), .ref (ad 27), .ref (ad 28), .ref (ad 29), .ref (ad 30), .ref (ad 31), .ref (ad 32), .ref (ad 33), .int (iv 34), .ref (ad 35), .ref (ad 36), .ref (ad 37), .int (iv 38)]))]) [0] rfl
        have hDc := hD.sub (ws' := [(qm, .inr (11, [.int (iv 0), .int (iv 1), .ref (ad 2), .ref (ad 3), .ref (ad 4), .ref (ad 5), .int (iv 6), .ref (ad 7), .ref (ad 8), .ref (ad 9), .ref (ad 10), .int (iv 11), .ref (ad 12), .ref (ad 13), .ref (ad 14), .ref (ad 15), .ref (ad 16), .int (iv 17), .ref (ad 18), .ref (ad 19), .int (iv 20), .int (iv 21), .int (iv 22), .int (iv 23), .int (iv 24), .ref (ad 25), .ref (ad 26), .ref (ad 27), .ref (ad 28), .ref (ad 29), .ref (ad 30), .ref (ad 31), .ref (ad 32), .ref (ad 33), .int (iv 34), .ref (ad 35), .ref (ad 36), .ref (ad 37), .int (iv 38)]))]) [0] (by decide) rfl
        have hKc := hK.sub (tys' := []) [] rfl
        have hFc := va_free (wc := [(qm, .inr (11, [.int (iv 0), .int (iv 1), .ref (ad 2), .ref (ad 3), .ref (ad 4), .ref (ad 5), .int (iv 6), .ref (ad 7), .ref (ad 8), .ref (ad 9), .ref (ad 10), .int (iv 11), .ref (ad 12), .ref (ad 13), .ref (ad 14), .ref (ad 15), .ref (ad 16), .int (iv 17), .ref (ad 18), .ref (ad 19), .int (iv 20), .int (iv 21), .int (iv 22), .int (iv 23), .int (iv 24), .ref (ad 25), .ref (ad 26), .ref (ad 27), .ref (ad 28), .ref (ad 29), .ref (ad 30), .ref (ad 31), .ref (ad 32), .ref (ad 33), .int (iv 34), .ref (ad 35), .ref (ad 36), .ref (ad 37), .int (iv 38)]))]) hD hS hA [0] rfl
        refine va_callv (va_runV (As := [.int 4]) (rest := []) ⟨hx, hb, hml, hown, hts⟩ (r_X11_traced l dC dI  _ qm (.int (iv 0)) (.int (iv 1)) (.ref (ad 2)) (.ref (ad 3)) (.ref (ad 4)) (.ref (ad 5)) (.int (iv 6)) (.ref (ad 7)) (.ref (ad 8)) (.ref (ad 9)) (.ref (ad 10)) (.int (iv 11)) (.ref (ad 12)) (.ref (ad 13)) (.ref (ad 14)) (.ref (ad 15)) (.ref (ad 16)) (.int (iv 17)) (.ref (ad 18)) (.ref (ad 19)) (.int (iv 20)) (.int (iv 21)) (.int (iv 22)) (.int (iv 23)) (.int (iv 24)) (.ref (ad 25)) (.ref (ad 26)) (.ref (ad 27)) (.ref (ad 28)) (.ref (ad 29)) (.ref (ad 30)) (.ref (ad 31)) (.ref (ad 32)) (.ref (ad 33)) (.int (iv 34)) (.ref (ad 35)) (.ref (ad 36)) (.ref (ad 37)) (iv 38) 4 ) (cwV 1 hts gX11_greet_X11_traced rfl rfl rfl (by decide +kernel) ⟨Nat.le_of_ble_eq_true rfl, Nat.le_of_ble_eq_true rfl⟩) (pw_preV (va_recv hKc hPc (ci := 11) (q0 := 0) rfl rfl) hPc hKc hDc hN) rfl rfl hl.1 rfl (lv_room (Nat.le_of_ble_eq_true rfl)) dX11_greet_21 ⟨Nat.le_of_ble_eq_true rfl, Nat.le_of_ble_eq_true rfl⟩) hS (fun q _ h => hFc q h) hFc (fun u t H1 locs ht hvm hw hB hz1 hk1 hS => ?_)
        obtain ⟨hP1, hK1, hD1⟩ := hB
        rw [ht] at hP1
        obtain ⟨hP, hD⟩ := va_join (wr := [(ad 2, .inl (cI, 48, .inl (ia 2))), (ad 3, .inl (cI, 48, .inl (ia 3))), (ad 4, .inl (cI, 48, .inl (ia 4))), (ad 5, .inl (cI, 48, .inl (ia 5))), (ad 7, .inl (cI, 4, .inl (ia 7))), (ad 8, .inl (cI, 4, .inl (ia 8))), (ad 9, .inl (cI, 192, .inl (ia 9))), (ad 10, .inl (cI, 48, .inl (ia 10))), (ad 12, .inl (cI, 12, .inl (ia 12))), (ad 13, .inl (cI, 12, .inl (ia 13))), (ad 14, .inl (cI, 12, .inl (ia 14))), (ad 15, .inl (cI, 12, .inl (ia 15))), (ad 16, .inl (cI, 12, .inl (ia 16))), (ad 18, .inl (cI, 8, .inl (ia 18))), (ad 19, .inl (cJ, 8, .inr (.inl (la 19)))), (ad 25, .inl (cI, 40, .inl (ia 25))), (ad 26, .inl (cI, 40, .inl (ia 26))), (ad 27, .inl (cI, 40, .inl (ia 27))), (ad 28, .inl (cZ, 40, .inl (ia 28))), (ad 29, .inl (cJ, 40, .inr (.inl (la 29)))), (ad 30, .inl (cJ, 40, .inr (.inl (la 30)))), (ad 31, .inl (cJ, 40, .inr (.inl (la 31)))), (ad 32, .inl (cJ, 40, .inr (.inl (la 32)))), (ad 33, .inl (cJ, 40, .inr (.inl (la 33)))), (ad 35, .inl (cI, 80, .inl (ia 35))), (ad 36, .inl (cI, 80, .inl (ia 36))), (ad 37, .inl (cI, 80, .inl (ia 37)))]) (w1 := [(qm, .inr (11, [.int (iv 0), .int (iv 1), .ref (ad 2), .ref (ad 3), .ref (ad 4), .ref (ad 5), .int (iv 6), .ref (ad 7), .ref (ad 8), .ref (ad 9), .ref (ad 10), .int (iv 11), .ref (ad 12), .ref (ad 13), .ref (ad 14), .ref (ad 15), .ref (ad 16), .int (iv 17), .ref (ad 18), .ref (ad 19), .int (iv 20), .int (iv 21), .int (iv 22), .int (iv 23), .int (iv 24), .ref (ad 25), .ref (ad 26), .ref (ad 27), .ref (ad 28), .ref (ad 29), .ref (ad 30), .ref (ad 31), .ref (ad 32), .ref (ad 33), .int (iv 34), .ref (ad 35), .ref (ad 36), .ref (ad 37), .int ((31 * (iv 38)) + 4)]))]) hP hD [0] [1, 2, 3, 4, 5, 6, 7, 8, 9, 10, 11, 12, 13, 14, 15, 16, 17, 18, 19, 20, 21, 22, 23, 24, 25, 26, 27] rfl rfl (by decide) (by decide) hk1 hFc hP1 hD1
        generalize H1 = H at hP hS ⊢
        have hP : va_P (dC, dI) vwCl [(ad 2, .inl (cI, 48, .inl (ia 2))), (ad 3, .inl (cI, 48, .inl (ia 3))), (ad 4, .inl (cI, 48, .inl (ia 4))), (ad 5, .inl (cI, 48, .inl (ia 5))), (ad 7, .inl (cI, 4, .inl (ia 7))), (ad 8, .inl (cI, 4, .inl (ia 8))), (ad 9, .inl (cI, 192, .inl (ia 9))), (ad 10, .inl (cI, 48, .inl (ia 10))), (ad 12, .inl (cI, 12, .inl (ia 12))), (ad 13, .inl (cI, 12, .inl (ia 13))), (ad 14, .inl (cI, 12, .inl (ia 14))), (ad 15, .inl (cI, 12, .inl (ia 15))), (ad 16, .inl (cI, 12, .inl (ia 16))), (ad 18, .inl (cI, 8, .inl (ia 18))), (ad 19, .inl (cJ, 8, .inr (.inl (la 19)))), (ad 25, .inl (cI, 40, .inl (ia 25))), (ad 26, .inl (cI, 40, .inl (ia 26))), (ad 27, .inl (cI, 40, .inl (ia 27))), (ad 28, .inl (cZ, 40, .inl (ia 28))), (ad 29, .inl (cJ, 40, .inr (.inl (la 29)))), (ad 30, .inl (cJ, 40, .inr (.inl (la 30)))), (ad 31, .inl (cJ, 40, .inr (.inl (la 31)))), (ad 32, .inl (cJ, 40, .inr (.inl (la 32)))), (ad 33, .inl (cJ, 40, .inr (.inl (la 33)))), (ad 35, .inl (cI, 80, .inl (ia 35))), (ad 36, .inl (cI, 80, .inl (ia 36))), (ad 37, .inl (cI, 80, .inl (ia 37))), (qm, .inr (11, [.int (iv 0), .int (iv 1), .ref (ad 2), .ref (ad 3), .ref (ad 4), .ref (ad 5), .int (iv 6), .ref (ad 7), .ref (ad 8), .ref (ad 9), .ref (ad 10), .int (iv 11), .ref (ad 12), .ref (ad 13), .ref (ad 14), .ref (ad 15), .ref (ad 16), .int (iv 17), .ref (ad 18), .ref (ad 19), .int (iv 20), .int (iv 21), .int (iv 22), .int (iv 23), .int (iv 24), .ref (ad 25), .ref (ad 26), .ref (ad 27), .ref (ad 28), .ref (ad 29), .ref (ad 30), .ref (ad 31), .ref (ad 32), .ref (ad 33), .int (iv 34), .ref (ad 35), .ref (ad 36), .ref (ad 37), .int ((31 * (iv 38)) + 4)]))] H := hP
        have hD : va_D _ [(ad 2, .inl (cI, 48, .inl (ia 2))), (ad 3, .inl (cI, 48, .inl (ia 3))), (ad 4, .inl (cI, 48, .inl (ia 4))), (ad 5, .inl (cI, 48, .inl (ia 5))), (ad 7, .inl (cI, 4, .inl (ia 7))), (ad 8, .inl (cI, 4, .inl (ia 8))), (ad 9, .inl (cI, 192, .inl (ia 9))), (ad 10, .inl (cI, 48, .inl (ia 10))), (ad 12, .inl (cI, 12, .inl (ia 12))), (ad 13, .inl (cI, 12, .inl (ia 13))), (ad 14, .inl (cI, 12, .inl (ia 14))), (ad 15, .inl (cI, 12, .inl (ia 15))), (ad 16, .inl (cI, 12, .inl (ia 16))), (ad 18, .inl (cI, 8, .inl (ia 18))), (ad 19, .inl (cJ, 8, .inr (.inl (la 19)))), (ad 25, .inl (cI, 40, .inl (ia 25))), (ad 26, .inl (cI, 40, .inl (ia 26))), (ad 27, .inl (cI, 40, .inl (ia 27))), (ad 28, .inl (cZ, 40, .inl (ia 28))), (ad 29, .inl (cJ, 40, .inr (.inl (la 29)))), (ad 30, .inl (cJ, 40, .inr (.inl (la 30)))), (ad 31, .inl (cJ, 40, .inr (.inl (la 31)))), (ad 32, .inl (cJ, 40, .inr (.inl (la 32)))), (ad 33, .inl (cJ, 40, .inr (.inl (la 33)))), (ad 35, .inl (cI, 80, .inl (ia 35))), (ad 36, .inl (cI, 80, .inl (ia 36))), (ad 37, .inl (cI, 80, .inl (ia 37))), (qm, .inr (11, [.int (iv 0), .int (iv 1), .ref (ad 2), .ref (ad 3), .ref (ad 4), .ref (ad 5), .int (iv 6), .ref (ad 7), .ref (ad 8), .ref (ad 9), .ref (ad 10), .int (iv 11), .ref (ad 12), .ref (ad 13), .ref (ad 14), .ref (ad 15), .ref (ad 16), .int (iv 17), .ref (ad 18), .ref (ad 19), .int (iv 20), .int (iv 21), .int (iv 22), .int (iv 23), .int (iv 24), .ref (ad 25), .ref (ad 26), .ref (ad 27), .ref (ad 28), .ref (ad 29), .ref (ad 30), .ref (ad 31), .ref (ad 32), .ref (ad 33), .int (iv 34), .ref (ad 35), .ref (ad 36), .ref (ad 37), .int ((31 * (iv 38)) + 4)]))] := hD
        refine lv_bipush (v := 10) hx hb dX11_greet_24 (by decide) ?_
        refine lv_iload_n hx hb dX11_greet_26 rfl (lv_at hl 1 rfl) ?_
        refine lv_imul hx hb dX11_greet_27 ?_
        have hP9 : va_P (dC, dI) vwCl (rw qm cI cJ cZ ad (upd iv 38 ((31 * (iv 38)) + 4)) ia la) H := hP.sub [27, 0, 1, 2, 3, 4, 5, 6, 7, 8, 9, 10, 11, 12, 13, 14, 15, 16, 17, 18, 19, 20, 21, 22, 23, 24, 25, 26] rfl
        have hD9 : va_D (va_A (rw qm cI cJ cZ ad iv ia la) s.heap.size) (rw qm cI cJ cZ ad (upd iv 38 ((31 * (iv 38)) + 4)) ia la) := hD.sub [27, 0, 1, 2, 3, 4, 5, 6, 7, 8, 9, 10, 11, 12, 13, 14, 15, 16, 17, 18, 19, 20, 21, 22, 23, 24, 25, 26] (by decide) rfl
        exact W.iret (v := 10 * (nI jg)) hx hb hr (fun t ht hW => ⟨⟨10 * (nI jg), (upd iv 38 ((31 * (iv 38)) + 4), ia, la), rfl, ⟨(by simpa [rinv, upd, va_up] using hI), ⟨gc, hgc, egc, Or.inr ⟨jg, hjg, rfl, (by first | (simp [gr_r, c3, c5]; done) | contradiction), (by first | (simp [gr_t, c3, c5]; done) | contradiction)⟩⟩⟩, by rw [ht]; exact hP9, va_K.moved hW.alike hK, hD9⟩, hS.F ht⟩) hS.2.2 dX11_greet_28
    · exact absurd c3 (by decide)
/-! keyed worlds: a cell under each key; a contract of some cells serves in a world that has them -/
theorem Met_mono {l : Launch} {y : MethodName} {ws : List Cond} {rm : Room} {Pc Pc' : Array Value → State → Prop} {Qc Qc' : Array Value → State → Outcome → State → Prop} {mc ms : Nat} {free free' : Addr → Prop} (h : Met l y ws rm Pc Qc mc ms free) (hP : ∀ a s, Pc' a s → Pc a s) (hf : ∀ q, free q → free' q) (hQ : ∀ a s o t, Pc' a s → s.WarmedH t.vm → Qc a s o t → Qc' a s o t) : Met l y ws rm Pc' Qc' mc ms free' :=
  Jvm.Free.MetFree.mono h hP (fun _ _ _ _ _ h => h) (fun a s o t hp hq => ⟨hQ a s o t hp hq.2.choose_spec.1.2.1 hq.1, hq.2.choose, hq.2.choose_spec.1, fun q h => hf _ (hq.2.choose_spec.2 q h)⟩)
abbrev KW : Type := Nat → Nat → Option (Nat × va_E)
def kP (D : va_G) (F : KW) (H : Heap) : Prop := ∀ (i j : Nat) (q : Nat × va_E), F i j = some q → va_at D vwCl q H
def kD (F : KW) : Prop := ∀ (i j i' j' : Nat) (p q : Nat × va_E), F i j = some p → F i' j' = some q → p.1 = q.1 → i = i' ∧ j = j'
def kA (F : KW) (sz : Nat) : Nat → Prop := fun a => (∃ (i j : Nat) (e : va_E), F i j = some (a, e)) ∨ sz ≤ a
def kw (D : va_G) (tys : List (ClassId × FieldType)) (F : KW) (sz : Nat) (av : List Value) : Array Value → State → Prop := va_Pc av (fun U => U.heap.size = sz ∧ kP D F U.heap ∧ va_K D vwCl tys U ∧ kD F ∧ nst U)
/-- no cell twice, and every cell is one of A -/
def kDA (A : Nat → Prop) (F : KW) : Prop := kD F ∧ ∀ (i j : Nat) (q : Nat × va_E), F i j = some q → A q.1
theorem kDA_self {F : KW} {sz : Nat} (h : kD F) : kDA (kA F sz) F := ⟨h, fun i j q e => Or.inl ⟨i, j, q.2, e⟩⟩
def kb (D : va_G) (tys : List (ClassId × FieldType)) (A : Nat → Prop) (F : KW) (t : State) : Prop := kP D F t.heap ∧ va_K D vwCl tys t ∧ kDA A F
/-- the cells ws lie under the keys ks -/
def kAll (F : KW) : List (Nat × Nat) → va_W → Prop
  | [], [] => True
  | k :: ks, c :: ws => F k.1 k.2 = some c ∧ kAll F ks ws
  | [], _ :: _ => False
  | _ :: _, [] => False
theorem kAll_get {F : KW} : ∀ {ks : List (Nat × Nat)} {ws : va_W}, kAll F ks ws → ∀ {n : Nat} {q : Nat × va_E}, ws[n]? = some q → ∃ k, ks[n]? = some k ∧ F k.1 k.2 = some q
  | [], [], _, n, q, h => by simp at h
  | k :: ks, c :: ws, hk, 0, q, h => by
    simp only [List.getElem?_cons_zero, Option.some.injEq] at h
    subst h
    exact ⟨k, rfl, hk.1⟩
  | k :: ks, c :: ws, hk, n + 1, q, h => by
    obtain ⟨k', h1, h2⟩ := kAll_get hk.2 (n := n) (q := q) (by simpa using h)
    exact ⟨k', by simpa using h1, h2⟩
theorem kAll_key {F : KW} : ∀ {ks : List (Nat × Nat)} {ws : va_W}, kAll F ks ws → ∀ {k : Nat × Nat}, k ∈ ks → ∃ (n : Nat) (q : Nat × va_E), ws[n]? = some q ∧ ks[n]? = some k ∧ F k.1 k.2 = some q
  | [], [], _, k, h => absurd h List.not_mem_nil
  | k :: ks, c :: ws, hk, k', h => by
    rcases List.mem_cons.mp h with rfl | h
    · exact ⟨0, c, rfl, rfl, hk.1⟩
    · obtain ⟨n, q, h1, h2, h3⟩ := kAll_key hk.2 h
      exact ⟨n + 1, q, by simpa using h1, by simpa using h2, h3⟩
theorem kAll_P {D : va_G} {F : KW} {H : Heap} {ks : List (Nat × Nat)} {ws : va_W} (h : kP D F H) (hk : kAll F ks ws) : va_P D vwCl ws H := fun n q hn => by
  obtain ⟨k, _, h2⟩ := kAll_get hk hn
  exact h _ _ q h2
theorem kAll_D {F : KW} {ks : List (Nat × Nat)} {ws : va_W} (h : kD F) (hk : kAll F ks ws) (hn : ks.Nodup) : va_D (fun _ => True) ws := ⟨fun i j p q hp hq e => by
  obtain ⟨k1, a1, a2⟩ := kAll_get hk hp
  obtain ⟨k2, b1, b2⟩ := kAll_get hk hq
  obtain ⟨e1, e2⟩ := h _ _ _ _ p q a2 b2 e
  have e3 : k1 = k2 := Prod.ext e1 e2
  subst e3
  exact (List.getElem?_inj (List.getElem?_eq_some_iff.mp a1).1 hn).mp (a1.trans b1.symm), fun _ _ _ => trivial⟩
theorem kAll_A {F : KW} {ks : List (Nat × Nat)} {ws : va_W} {sz : Nat} (hk : kAll F ks ws) : ∀ q, va_A ws sz q → kA F sz q := by
  rintro q (⟨k, e, h⟩ | h)
  · obtain ⟨k', _, h2⟩ := kAll_get hk h
    exact Or.inl ⟨_, _, e, h2⟩
  · exact Or.inr h
theorem kw_blind {D : va_G} {tys : List (ClassId × FieldType)} {F : KW} {sz : Nat} {av : List Value} : FrameBlind (kw D tys F sz av) := fun a U g mk q => by
  obtain ⟨q0, q1, qP, qK, qD, qN⟩ := q
  exact ⟨q0, q1, qP, va_K.moved (u := U) (U := U.calling g mk a) (Vm.Alike.refl U.vm) qK, qD, nst_same (u := U) (U := U.calling g mk a) rfl qN⟩
theorem kw_preS {s : State} {H : Heap} {D : va_G} {tys : List (ClassId × FieldType)} {F : KW} {av : List Value} (hP : kP D F H) (hK : va_K D vwCl tys s) (hD : kD F) (hN : nst s) : PreS s H (kw D tys F H.size av) av :=
  ⟨kw_blind, fun U hU hW => ⟨rfl, by rw [hU], by rw [hU]; exact hP, va_K.moved hW.alike hK, hD, nst_warm hW hN⟩⟩
theorem kw_preV {s : State} {H : Heap} {D : va_G} {tys : List (ClassId × FieldType)} {F : KW} {C : String} {b : Addr} {As : List Value} (hr : ∃ cellB : Cell, H[b]? = some cellB ∧ cellB.vm.isStatics = false ∧ s.vm.findClass C = some cellB.cls) (hP : kP D F H) (hK : va_K D vwCl tys s) (hD : kD F) (hN : nst s) : PreV s H C b (kw D tys F H.size (.ref b :: As)) As :=
  ⟨kw_blind, hr, fun U hU hW => ⟨rfl, by rw [hU], by rw [hU]; exact hP, va_K.moved hW.alike hK, hD, nst_warm hW hN⟩⟩
/-- a contract of some cells, in a world that has them -/
theorem klift {l : Launch} {y : MethodName} {ws : List Cond} {rm : Room} {D : va_G} {tys tys' : List (ClassId × FieldType)} {F : KW} {sz : Nat} {av : List Value} {Qs Qb : Array Value → State → Outcome → State → Prop} {mc ms : Nat} {ks : List (Nat × Nat)} {wc : va_W}
    (hM : Met l y ws rm (pw D tys' wc sz av) Qs mc ms (va_A wc sz)) (hk : kAll F ks wc) (hn : ks.Nodup) (is : List Nat) (hs : is.filterMap (fun i => tys[i]?) = tys')
    (hQ : ∀ a s o t, s.heap.size = sz → kP D F s.heap → kD F → va_K D vwCl tys s → s.WarmedH t.vm → Qs a s o t → Qb a s o t) : Met l y ws rm (kw D tys F sz av) Qb mc ms (kA F sz) :=
  Met_mono hM (fun a s h => ⟨h.1, h.2.1, kAll_P h.2.2.1 hk, h.2.2.2.1.sub is hs, kAll_D h.2.2.2.2.1 hk hn, h.2.2.2.2.2⟩) (kAll_A hk) (fun a s o t h hW hq => hQ a s o t h.2.1 h.2.2.1 h.2.2.2.2.1 h.2.2.2.1 hW hq)
/-- the same of a contract that changes nothing -/
theorem kliftp {l : Launch} {y : MethodName} {ws : List Cond} {rm : Room} {D : va_G} {tys tys' : List (ClassId × FieldType)} {F : KW} {sz : Nat} {av : List Value} {Qs Qb : Array Value → State → Outcome → State → Prop} {ks : List (Nat × Nat)} {wc : va_W}
    (hM : Met l y ws rm (pw D tys' wc sz av) Qs 0 0 (fun _ => False)) (hk : kAll F ks wc) (hn : ks.Nodup) (is : List Nat) (hs : is.filterMap (fun i => tys[i]?) = tys')
    (hQ : ∀ a s o t, s.heap.size = sz → kP D F s.heap → kD F → va_K D vwCl tys s → s.WarmedH t.vm → Qs a s o t → Qb a s o t) : Met l y ws rm (kw D tys F sz av) Qb 0 0 (kA F sz) :=
  Met_mono hM (fun a s h => ⟨h.1, h.2.1, kAll_P h.2.2.1 hk, h.2.2.2.1.sub is hs, kAll_D h.2.2.2.2.1 hk hn, h.2.2.2.2.2⟩) (fun q h => h.elim) (fun a s o t h hW hq => hQ a s o t h.2.1 h.2.2.1 h.2.2.2.2.1 h.2.2.2.1 hW hq)
/-- behind the call: the callee's cells are new, all others are as they were -/
theorem kjoin {D : va_G} {F F' : KW} {ks ks' : List (Nat × Nat)} {wc w1 : va_W} {s t : State} {sz : Nat} (hP : kP D F s.heap) (hD : kD F) (hk : kAll F ks wc) (hsz : s.heap.size = sz) (hF : va_F (va_A wc sz) s t) (hP1 : va_P D vwCl w1 t.heap) (hD1 : va_D (va_A wc sz) w1) (hk' : kAll F' ks' w1)
    (hout : ∀ i j, (i, j) ∉ ks' → F' i j = none ∨ ((i, j) ∉ ks ∧ F' i j = F i j)) : kP D F' t.heap ∧ kDA (kA F sz) F' ∧ va_F (kA F sz) s t := by
  have key : ∀ i j q, F' i j = some q → (∃ n : Nat, w1[n]? = some q ∧ ks'[n]? = some (i, j)) ∨ ((i, j) ∉ ks ∧ F i j = some q) := by
    intro i j q h
    by_cases hm : (i, j) ∈ ks'
    · obtain ⟨n, q', h1, h2, h3⟩ := kAll_key hk' hm
      have e : q' = q := Option.some.inj (h3.symm.trans h)
      subst e
      exact Or.inl ⟨n, h1, h2⟩
    · rcases hout i j hm with h0 | ⟨h0, h1⟩
      · rw [h0] at h; cases h
      · exact Or.inr ⟨h0, h1.symm.trans h⟩
  have apart : ∀ i j q, (i, j) ∉ ks → F i j = some q → q.1 < s.heap.size ∧ ¬ va_A wc sz q.1 := by
    intro i j q hn h
    have hl := (hP i j q h).lt
    refine ⟨hl, fun ha => ?_⟩
    rcases ha with ⟨n, e, ha⟩ | ha
    · obtain ⟨k, h1, h2⟩ := kAll_get hk ha
      obtain ⟨e1, e2⟩ := hD _ _ _ _ q (q.1, e) h h2 rfl
      have e3 : (i, j) = k := Prod.ext e1 e2
      exact hn (e3 ▸ List.mem_of_getElem? h1)
    · omega
  refine ⟨fun i j q h => ?_, ⟨fun i j i' j' p q h1 h2 e => ?_, fun i j q h => ?_⟩, hF.1, fun q h1 h2 => hF.2 q h1 (fun h => h2 (kAll_A hk q h))⟩
  · rcases key i j q h with ⟨n, h1, _⟩ | ⟨h0, h1⟩
    · exact hP1 n q h1
    · obtain ⟨a, b⟩ := apart i j q h0 h1
      exact (hP i j q h1).kept (hF.2 _ a b)
  · rcases key i j p h1 with ⟨n, a1, a2⟩ | ⟨a1, a2⟩ <;> rcases key i' j' q h2 with ⟨n', b1, b2⟩ | ⟨b1, b2⟩
    · have en := hD1.1 n n' p q a1 b1 e
      subst en
      have := Option.some.inj (a2.symm.trans b2)
      exact ⟨congrArg Prod.fst this, congrArg Prod.snd this⟩
    · exact absurd (by rw [← e]; exact hD1.2 n p a1) (apart i' j' q b1 b2).2
    · exact absurd (by rw [e]; exact hD1.2 n' q b1) (apart i j p a1 a2).2
    · exact hD _ _ _ _ p q a2 b2 e
  · rcases key i j q h with ⟨n, h1, _⟩ | ⟨_, h1⟩
    · exact kAll_A hk _ (hD1.2 n q h1)
    · exact Or.inl ⟨i, j, q.2, h1⟩
theorem kw_same {D : va_G} {F : KW} {s t : State} {sz : Nat} (hP : kP D F s.heap) (h : t.heap = s.heap) : kP D F t.heap ∧ va_F (kA F sz) s t := ⟨by rw [h]; exact hP, by rw [h]; exact Nat.le_refl _, fun q _ _ => by rw [h]⟩
/-- answers of a contract over a keyed world -/
def kQi {S : Type} (D : va_G) (tys : List (ClassId × FieldType)) (F : KW) (sz : Nat) (G : S → KW) (post : Int32 → S → Prop) : Array Value → State → Outcome → State → Prop := va_Qi post (fun u t => kb D tys (kA F sz) (G u) t) (kA F sz)
def kQl {S : Type} (D : va_G) (tys : List (ClassId × FieldType)) (F : KW) (sz : Nat) (G : S → KW) (post : Int64 → S → Prop) : Array Value → State → Outcome → State → Prop := va_Ql post (fun u t => kb D tys (kA F sz) (G u) t) (kA F sz)
/-! the class's world on every state: numbers, counts, arrays, longs, places, sheets' cells, addresses -/
abbrev CS : Type := (Nat → Int32) × (Nat → Nat) × (Nat → Nat → Int32) × (Nat → Nat → Int64) × (Nat → Nat → Nat) × (Nat → Nat → Int32) × (Nat → Nat → Nat)
abbrev cs_i (z : CS) : Nat → Int32 := z.1
abbrev cs_n (z : CS) : Nat → Nat := z.2.1
abbrev cs_I (z : CS) : Nat → Nat → Int32 := z.2.2.1
abbrev cs_L (z : CS) : Nat → Nat → Int64 := z.2.2.2.1
abbrev cs_N (z : CS) : Nat → Nat → Nat := z.2.2.2.2.1
abbrev cs_S (z : CS) : Nat → Nat → Int32 := z.2.2.2.2.2.1
abbrev cs_X (z : CS) : Nat → Nat → Nat := z.2.2.2.2.2.2
def ctys (cA : Nat → ClassId) : List (ClassId × FieldType) := [(cA 0, .int), (cA 1, .object RX6), (cA 2, .object RX2), (cA 3, .object RX8), (cA 4, .object RX5), (cA 5, .object RX7)]
def rfN (n : Nat) (a : Nat → Nat) : Nat → Option Nat := fun j => if j < n then some (a j) else none
theorem rfN_at {n j : Nat} {a : Nat → Nat} (h : j < n) : rfN n a j = some (a j) := if_pos h
theorem rfN_up (n : Nat) (a : Nat → Nat) (q : Nat) : va_up (rfN n a) n (some q) = rfN (n + 1) (va_up a n q) := by
  funext j
  by_cases h : j = n
  · subst h; simp [va_up, rfN]
  · simp only [va_up, rfN, h, if_false]
    by_cases h2 : j < n
    · rw [if_pos h2, if_pos (by omega)]
    · rw [if_neg h2, if_neg (by omega)]
/-- none, or the thing whose number is one less -/
def opN (n : Nat) (a : Nat → Nat) : Option Nat := if n = 0 then none else some (a (n - 1))
theorem opN_0 {n : Nat} {a : Nat → Nat} (h : n = 0) : opN n a = none := if_pos h
theorem opN_s {n : Nat} {a : Nat → Nat} (h : ¬ n = 0) : opN n a = some (a (n - 1)) := if_neg h
def cFix (cA : Nat → ClassId) (z : CS) : va_W := [
  (cs_X z 0 0, .inr (10, [.ref (cs_X z 0 1), .ref (cs_X z 0 6), .ref (cs_X z 0 7), .ref (cs_X z 0 8), .ref (cs_X z 0 9), .ref (cs_X z 0 10), .ref (cs_X z 0 11), .int (nI (cs_n z 0)), .int (nI (cs_n z 1)), .int (nI (cs_n z 2)), .int (nI (cs_n z 3)), va_rf (opN (cs_n z 4) (fun _ => cs_X z 5 0)), .int (cs_i z 2)])),
  (cs_X z 0 1, .inr (3, [.ref (cs_X z 0 2), .ref (cs_X z 0 3), .ref (cs_X z 0 4), .ref (cs_X z 0 5), .int (cs_i z 0)])),
  (cs_X z 0 2, .inl (cA 0, 48, .inl (cs_I z 0))), (cs_X z 0 3, .inl (cA 0, 48, .inl (cs_I z 1))), (cs_X z 0 4, .inl (cA 0, 48, .inl (cs_I z 2))), (cs_X z 0 5, .inl (cA 0, 48, .inl (cs_I z 3))),
  (cs_X z 0 6, .inl (cA 1, 12, .inr (.inr (.inr (.inr (rfN (cs_n z 0) (cs_X z 1))))))), (cs_X z 0 7, .inl (cA 2, 8, .inr (.inr (.inr (.inr (rfN (cs_n z 1) (cs_X z 2))))))), (cs_X z 0 8, .inl (cA 3, 40, .inr (.inr (.inr (.inr (rfN (cs_n z 2) (cs_X z 3))))))), (cs_X z 0 9, .inl (cA 4, 80, .inr (.inr (.inr (.inr (rfN (cs_n z 3) (cs_X z 4))))))), (cs_X z 0 10, .inl (cA 5, 4, .inr (.inr (.inr (.inr (rfN 4 (cs_X z 6))))))),
  (cs_X z 0 11, .inr (9, [.int (cs_i z 1)]))]
def cPi (z : CS) (j : Nat) : Nat × va_E := (cs_X z 1 j, .inr (6, [.int (nI j), .int (cs_I z 11 j), .int (cs_I z 12 j), .int (cs_I z 13 j), .int (cs_I z 14 j), .int (cs_I z 15 j), .int (cs_I z 16 j), va_rf (opN (cs_N z 0 j) (cs_X z 3))]))
def cGa (z : CS) (j : Nat) : Nat × va_E := (cs_X z 2 j, .inr (cs_N z 1 j, [.int (nI j), .int (cs_I z 21 j), .int (cs_I z 22 j), .long (cs_L z 0 j)]))
def cTa (z : CS) (j : Nat) : Nat × va_E := (cs_X z 3 j, .inr (8, [.int (nI j), .int (cs_I z 31 j), .ref (cs_X z 2 (cs_N z 2 j)), .ref (cs_X z 1 (cs_N z 3 j)), .long (cs_L z 1 j), .long (cs_L z 2 j), .long (cs_L z 3 j), .long (cs_L z 4 j), .long (cs_L z 5 j), .long (cs_L z 6 j), .int (cs_I z 32 j), .int (cs_I z 33 j)]))
def cPa (z : CS) (j : Nat) : Nat × va_E := (cs_X z 4 j, .inr (5, [.ref (cs_X z 1 (cs_N z 4 j)), .int (cs_I z 40 j)]))
def cAu (z : CS) : Nat × va_E := (cs_X z 5 0, .inr (0, [.ref (cs_X z 1 (cs_n z 4 - 1)), .int (cs_i z 3), .int (cs_i z 4), va_rf (opN (cs_n z 5) (cs_X z 2))]))
def cSh (z : CS) (j : Nat) : Nat × va_E := (cs_X z 6 j, .inr (7, [.ref (cs_X z 7 j), .int (cs_I z 8 j), .int (cs_I z 9 j)]))
def cSc (cA : Nat → ClassId) (z : CS) (j : Nat) : Nat × va_E := (cs_X z 7 j, .inl (cA 0, 48, .inl (cs_S z j)))
def cF (cA : Nat → ClassId) (z : CS) : KW := fun i j => match i with
  | 0 => (cFix cA z)[j]?
  | 1 => if j < cs_n z 0 then some (cPi z j) else none
  | 2 => if j < cs_n z 1 then some (cGa z j) else none
  | 3 => if j < cs_n z 2 then some (cTa z j) else none
  | 4 => if j < cs_n z 3 then some (cPa z j) else none
  | 5 => if j = 0 ∧ ¬ cs_n z 4 = 0 then some (cAu z) else none
  | 6 => if j < 4 then some (cSh z j) else none
  | 7 => if j < 4 then some (cSc cA z j) else none
  | _ => none
section CWK
variable {cA : Nat → ClassId} {z : CS} {j : Nat}
theorem kF_pi (h : j < cs_n z 0) : cF cA z 1 j = some (cPi z j) := if_pos h
theorem kF_piN (h : j < cs_n z 0) (h0 : cs_N z 0 j = 0) : cF cA z 1 j = some (cs_X z 1 j, .inr (6, [.int (nI j), .int (cs_I z 11 j), .int (cs_I z 12 j), .int (cs_I z 13 j), .int (cs_I z 14 j), .int (cs_I z 15 j), .int (cs_I z 16 j), .null])) := by rw [kF_pi h, cPi, opN_0 h0]; rfl
theorem kF_piT (h : j < cs_n z 0) (h0 : ¬ cs_N z 0 j = 0) : cF cA z 1 j = some (cs_X z 1 j, .inr (6, [.int (nI j), .int (cs_I z 11 j), .int (cs_I z 12 j), .int (cs_I z 13 j), .int (cs_I z 14 j), .int (cs_I z 15 j), .int (cs_I z 16 j), .ref (cs_X z 3 (cs_N z 0 j - 1))])) := by rw [kF_pi h, cPi, opN_s h0]; rfl
theorem kF_ga (h : j < cs_n z 1) : cF cA z 2 j = some (cGa z j) := if_pos h
theorem kF_gaK {k : Nat} (h : j < cs_n z 1) (hk : cs_N z 1 j = k) : cF cA z 2 j = some (cs_X z 2 j, .inr (k, [.int (nI j), .int (cs_I z 21 j), .int (cs_I z 22 j), .long (cs_L z 0 j)])) := by rw [kF_ga h, cGa, hk]
theorem kF_ta (h : j < cs_n z 2) : cF cA z 3 j = some (cTa z j) := if_pos h
theorem kF_pa (h : j < cs_n z 3) : cF cA z 4 j = some (cPa z j) := if_pos h
theorem kF_au (h : ¬ cs_n z 4 = 0) : cF cA z 5 0 = some (cAu z) := if_pos ⟨rfl, h⟩
theorem kF_auN (h : ¬ cs_n z 4 = 0) (h0 : cs_n z 5 = 0) : cF cA z 5 0 = some (cs_X z 5 0, .inr (0, [.ref (cs_X z 1 (cs_n z 4 - 1)), .int (cs_i z 3), .int (cs_i z 4), .null])) := by rw [kF_au h, cAu, opN_0 h0]; rfl
theorem kF_auB (h : ¬ cs_n z 4 = 0) (h0 : ¬ cs_n z 5 = 0) : cF cA z 5 0 = some (cs_X z 5 0, .inr (0, [.ref (cs_X z 1 (cs_n z 4 - 1)), .int (cs_i z 3), .int (cs_i z 4), .ref (cs_X z 2 (cs_n z 5 - 1))])) := by rw [kF_au h, cAu, opN_s h0]; rfl
theorem kF_sh (h : j < 4) : cF cA z 6 j = some (cSh z j) := if_pos h
theorem kF_sc (h : j < 4) : cF cA z 7 j = some (cSc cA z j) := if_pos h
theorem kF_tpN (h : cs_n z 4 = 0) : cF cA z 0 0 = some (cs_X z 0 0, .inr (10, [.ref (cs_X z 0 1), .ref (cs_X z 0 6), .ref (cs_X z 0 7), .ref (cs_X z 0 8), .ref (cs_X z 0 9), .ref (cs_X z 0 10), .ref (cs_X z 0 11), .int (nI (cs_n z 0)), .int (nI (cs_n z 1)), .int (nI (cs_n z 2)), .int (nI (cs_n z 3)), .null, .int (cs_i z 2)])) := by
  show some _ = some _
  rw [opN_0 h]; rfl
theorem kF_tpA (h : ¬ cs_n z 4 = 0) : cF cA z 0 0 = some (cs_X z 0 0, .inr (10, [.ref (cs_X z 0 1), .ref (cs_X z 0 6), .ref (cs_X z 0 7), .ref (cs_X z 0 8), .ref (cs_X z 0 9), .ref (cs_X z 0 10), .ref (cs_X z 0 11), .int (nI (cs_n z 0)), .int (nI (cs_n z 1)), .int (nI (cs_n z 2)), .int (nI (cs_n z 3)), .ref (cs_X z 5 0), .int (cs_i z 2)])) := by
  show some _ = some _
  rw [opN_s h]; rfl
end CWK
/-- what holds of the class between calls -/
def invC (z : CS) : Prop := (cs_n z 0 ≤ 12 ∧ cs_n z 1 ≤ 8 ∧ cs_n z 2 ≤ 40 ∧ cs_n z 3 ≤ 80 ∧ cs_n z 4 ≤ cs_n z 0 ∧ cs_n z 5 ≤ cs_n z 1) ∧ (∀ p, p < cs_n z 0 → (0 ≤ (cs_I z 11 p).toInt ∧ (cs_I z 11 p).toInt ≤ (cs_I z 13 p).toInt ∧ (cs_I z 13 p).toInt ≤ 7) ∧ (0 ≤ (cs_I z 12 p).toInt ∧ (cs_I z 12 p).toInt ≤ (cs_I z 14 p).toInt ∧ (cs_I z 14 p).toInt ≤ 5) ∧ cs_N z 0 p ≤ cs_n z 2) ∧ (∀ g, g < cs_n z 1 → cs_N z 1 g = 1 ∨ cs_N z 1 g = 2 ∨ cs_N z 1 g = 4) ∧ (∀ t, t < cs_n z 2 → cs_N z 2 t < cs_n z 1 ∧ cs_N z 3 t < cs_n z 0) ∧ (∀ k, k < cs_n z 3 → cs_N z 4 k < cs_n z 0) ∧ (∀ k, k < 4 → 0 ≤ (cs_I z 9 k).toInt ∧ (cs_I z 9 k).toInt ≤ 48)
theorem kw_met {l : Launch} {y : MethodName} {ws0 ws' : List Cond} {rm : Room} {D : va_G} {tys : List (ClassId × FieldType)} {F : KW} {sz : Nat} {av : List Value} {Qc : Array Value → State → Outcome → State → Prop} {mc ms : Nat} {free : Addr → Prop} {cc : ByteArray} {maxL : Nat} {ret : Option FieldType}
    (hy : plainName y.cls = true) (hw : ws0 = Cond.code y cc maxL ret :: ws') (hlen : (lg_sl av).length ≤ maxL)
    (body : ∀ (p : Program) (e : Env) (s : State) (m : MethodId) (below : List Frame) (meth : Method) (c : Code), p.tables.exec = Jvm.exec → c.code = cc → meth.sig.returnType = ret → c.maxLocals = maxL → s.vm.findClass y.cls = some m.cls → meth.locks = false → meth.name = y.name → (∀ w ∈ ws0, w.before av.toArray s = true) → kP D F s.heap → va_K D vwCl tys s → kD F → nst s → s.heap.size = sz → ∀ ls : Array Slot, lv_has ls maxL (lv_args 0 av) →
      W p l e rm s m av.toArray below meth c s.heap [] 0 0 (MQ below Qc av.toArray s mc ms free) (F0 m 0 ls [])) : Met l y ws0 rm (kw D tys F sz av) Qc mc ms free := by
  refine Met.ofW (cc := cc) (maxL := maxL) (ret := ret) hy hw ?_
  intro p e s m args below meth c s₁ B hml hv
  obtain ⟨rfl, hsz, hP, hK, hD0, hN⟩ := hv
  have hts := atoms_spec (ws := ws0) B.pre
  have hown : s.vm.findClass y.cls = some m.cls := findClass_of_methodNamed B.named
  have hl := lv_entry av (n := maxL) hlen
  rw [lg_entry_eq]
  generalize (lg_sl av ++ List.replicate (maxL - (lg_sl av).length) Slot.unset).toArray = ls at hl ⊢
  exact body p e s m below meth c B.exec B.bytes B.returns hml hown B.notSynchronized (name_of_methodNamed B.named B.method).1 hts hP hK hD0 hN hsz ls hl
