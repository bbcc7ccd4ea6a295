/-! the class's world on every state: numbers, counts, arrays, longs, places, sheets' cells, addresses -/
abbrev CS : Type := (Nat → Int32) × (Nat → Nat) × (Nat → Nat → Int32) × (Nat → Nat → Int64) × (Nat → Nat → Nat) × (Nat → Nat → Int32) × (Nat → Nat → Nat)
abbrev cs_i (z : CS) : Nat → Int32 := z.1
abbrev cs_n (z : CS) : Nat → Nat := z.2.1
abbrev cs_I (z : CS) : Nat → Nat → Int32 := z.2.2.1
abbrev cs_L (z : CS) : Nat → Nat → Int64 := z.2.2.2.1
abbrev cs_N (z : CS) : Nat → Nat → Nat := z.2.2.2.2.1
abbrev cs_S (z : CS) : Nat → Nat → Int32 := z.2.2.2.2.2.1
abbrev cs_X (z : CS) : Nat → Nat → Nat := z.2.2.2.2.2.2
def ctys (cA : Nat → ClassId) : List (ClassId × FieldType) := [(cA 0, .int), (cA 1, .object RX6), (cA 2, .object RX2), (cA 3, .object RX8), (cA 4, .object RX5), (cA 5, .object RX7)]
def rfN (n : Nat) (a : Nat → Nat) : Nat → Option Nat := fun j => if j < n then some (a j) else none
theorem rfN_at {n j : Nat} {a : Nat → Nat} (h : j < n) : rfN n a j = some (a j) := if_pos h
theorem rfN_up (n : Nat) (a : Nat → Nat) (q : Nat) : va_up (rfN n a) n (some q) = rfN (n + 1) (va_up a n q) := by
  funext j
  by_cases h : j = n
  · subst h; simp [va_up, rfN]
  · simp only [va_up, rfN, h, if_false]
    by_cases h2 : j < n
    · rw [if_pos h2, if_pos (by omega)]
    · rw [if_neg h2, if_neg (by omega)]
/-- none, or the thing whose number is one less -/
def opN (n : Nat) (a : Nat → Nat) : Option Nat := if n = 0 then none else some (a (n - 1))
theorem opN_0 {n : Nat} {a : Nat → Nat} (h : n = 0) : opN n a = none := if_pos h
theorem opN_s {n : Nat} {a : Nat → Nat} (h : ¬ n = 0) : opN n a = some (a (n - 1)) := if_neg h
def cFix (cA : Nat → ClassId) (z : CS) : va_W := [
  (cs_X z 0 0, .inr (10, [.ref (cs_X z 0 1), .ref (cs_X z 0 6), .ref (cs_X z 0 7), .ref (cs_X z 0 8), .ref (cs_X z 0 9), .ref (cs_X z 0 10), .ref (cs_X z 0 11), .int (nI (cs_n z 0)), .int (nI (cs_n z 1)), .int (nI (cs_n z 2)), .int (nI (cs_n z 3)), va_rf (opN (cs_n z 4) (fun _ => cs_X z 5 0)), .int (cs_i z 2)])),
  (cs_X z 0 1, .inr (3, [.ref (cs_X z 0 2), .ref (cs_X z 0 3), .ref (cs_X z 0 4), .ref (cs_X z 0 5), .int (cs_i z 0)])),
  (cs_X z 0 2, .inl (cA 0, 48, .inl (cs_I z 0))), (cs_X z 0 3, .inl (cA 0, 48, .inl (cs_I z 1))), (cs_X z 0 4, .inl (cA 0, 48, .inl (cs_I z 2))), (cs_X z 0 5, .inl (cA 0, 48, .inl (cs_I z 3))),
  (cs_X z 0 6, .inl (cA 1, 12, .inr (.inr (.inr (.inr (rfN (cs_n z 0) (cs_X z 1))))))), (cs_X z 0 7, .inl (cA 2, 8, .inr (.inr (.inr (.inr (rfN (cs_n z 1) (cs_X z 2))))))), (cs_X z 0 8, .inl (cA 3, 40, .inr (.inr (.inr (.inr (rfN (cs_n z 2) (cs_X z 3))))))), (cs_X z 0 9, .inl (cA 4, 80, .inr (.inr (.inr (.inr (rfN (cs_n z 3) (cs_X z 4))))))), (cs_X z 0 10, .inl (cA 5, 4, .inr (.inr (.inr (.inr (rfN 4 (cs_X z 6))))))),
  (cs_X z 0 11, .inr (9, [.int (cs_i z 1)]))]
def cPi (z : CS) (j : Nat) : Nat × va_E := (cs_X z 1 j, .inr (6, [.int (nI j), .int (cs_I z 11 j), .int (cs_I z 12 j), .int (cs_I z 13 j), .int (cs_I z 14 j), .int (cs_I z 15 j), .int (cs_I z 16 j), va_rf (opN (cs_N z 0 j) (cs_X z 3))]))
def cGa (z : CS) (j : Nat) : Nat × va_E := (cs_X z 2 j, .inr (cs_N z 1 j, [.int (nI j), .int (cs_I z 21 j), .int (cs_I z 22 j), .long (cs_L z 0 j)]))
def cTa (z : CS) (j : Nat) : Nat × va_E := (cs_X z 3 j, .inr (8, [.int (nI j), .int (cs_I z 31 j), .ref (cs_X z 2 (cs_N z 2 j)), .ref (cs_X z 1 (cs_N z 3 j)), .long (cs_L z 1 j), .long (cs_L z 2 j), .long (cs_L z 3 j), .long (cs_L z 4 j), .long (cs_L z 5 j), .long (cs_L z 6 j), .int (cs_I z 32 j), .int (cs_I z 33 j)]))
def cPa (z : CS) (j : Nat) : Nat × va_E := (cs_X z 4 j, .inr (5, [.ref (cs_X z 1 (cs_N z 4 j)), .int (cs_I z 40 j)]))
def cAu (z : CS) : Nat × va_E := (cs_X z 5 0, .inr (0, [.ref (cs_X z 1 (cs_n z 4 - 1)), .int (cs_i z 3), .int (cs_i z 4), va_rf (opN (cs_n z 5) (cs_X z 2))]))
def cSh (z : CS) (j : Nat) : Nat × va_E := (cs_X z 6 j, .inr (7, [.ref (cs_X z 7 j), .int (cs_I z 8 j), .int (cs_I z 9 j)]))
def cSc (cA : Nat → ClassId) (z : CS) (j : Nat) : Nat × va_E := (cs_X z 7 j, .inl (cA 0, 48, .inl (cs_S z j)))
def cF (cA : Nat → ClassId) (z : CS) : KW := fun i j => match i with
  | 0 => (cFix cA z)[j]?
  | 1 => if j < cs_n z 0 then some (cPi z j) else none
  | 2 => if j < cs_n z 1 then some (cGa z j) else none
  | 3 => if j < cs_n z 2 then some (cTa z j) else none
  | 4 => if j < cs_n z 3 then some (cPa z j) else none
  | 5 => if j = 0 ∧ ¬ cs_n z 4 = 0 then some (cAu z) else none
  | 6 => if j < 4 then some (cSh z j) else none
  | 7 => if j < 4 then some (cSc cA z j) else none
  | _ => none
section CWK
variable {cA : Nat → ClassId} {z : CS} {j : Nat}
theorem kF_pi (h : j < cs_n z 0) : cF cA z 1 j = some (cPi z j) := if_pos h
theorem kF_piN (h : j < cs_n z 0) (h0 : cs_N z 0 j = 0) : cF cA z 1 j = some (cs_X z 1 j, .inr (6, [.int (nI j), .int (cs_I z 11 j), .int (cs_I z 12 j), .int (cs_I z 13 j), .int (cs_I z 14 j), .int (cs_I z 15 j), .int (cs_I z 16 j), .null])) := by rw [kF_pi h, cPi, opN_0 h0]; rfl
theorem kF_piT (h : j < cs_n z 0) (h0 : ¬ cs_N z 0 j = 0) : cF cA z 1 j = some (cs_X z 1 j, .inr (6, [.int (nI j), .int (cs_I z 11 j), .int (cs_I z 12 j), .int (cs_I z 13 j), .int (cs_I z 14 j), .int (cs_I z 15 j), .int (cs_I z 16 j), .ref (cs_X z 3 (cs_N z 0 j - 1))])) := by rw [kF_pi h, cPi, opN_s h0]; rfl
theorem kF_ga (h : j < cs_n z 1) : cF cA z 2 j = some (cGa z j) := if_pos h
theorem kF_gaK {k : Nat} (h : j < cs_n z 1) (hk : cs_N z 1 j = k) : cF cA z 2 j = some (cs_X z 2 j, .inr (k, [.int (nI j), .int (cs_I z 21 j), .int (cs_I z 22 j), .long (cs_L z 0 j)])) := by rw [kF_ga h, cGa, hk]
theorem kF_ta (h : j < cs_n z 2) : cF cA z 3 j = some (cTa z j) := if_pos h
theorem kF_pa (h : j < cs_n z 3) : cF cA z 4 j = some (cPa z j) := if_pos h
theorem kF_au (h : ¬ cs_n z 4 = 0) : cF cA z 5 0 = some (cAu z) := if_pos ⟨rfl, h⟩
theorem kF_auN (h : ¬ cs_n z 4 = 0) (h0 : cs_n z 5 = 0) : cF cA z 5 0 = some (cs_X z 5 0, .inr (0, [.ref (cs_X z 1 (cs_n z 4 - 1)), .int (cs_i z 3), .int (cs_i z 4), .null])) := by rw [kF_au h, cAu, opN_0 h0]; rfl
theorem kF_auB (h : ¬ cs_n z 4 = 0) (h0 : ¬ cs_n z 5 = 0) : cF cA z 5 0 = some (cs_X z 5 0, .inr (0, [.ref (cs_X z 1 (cs_n z 4 - 1)), .int (cs_i z 3), .int (cs_i z 4), .ref (cs_X z 2 (cs_n z 5 - 1))])) := by rw [kF_au h, cAu, opN_s h0]; rfl
theorem kF_sh (h : j < 4) : cF cA z 6 j = some (cSh z j) := if_pos h
theorem kF_sc (h : j < 4) : cF cA z 7 j = some (cSc cA z j) := if_pos h
theorem kF_tpN (h : cs_n z 4 = 0) : cF cA z 0 0 = some (cs_X z 0 0, .inr (10, [.ref (cs_X z 0 1), .ref (cs_X z 0 6), .ref (cs_X z 0 7), .ref (cs_X z 0 8), .ref (cs_X z 0 9), .ref (cs_X z 0 10), .ref (cs_X z 0 11), .int (nI (cs_n z 0)), .int (nI (cs_n z 1)), .int (nI (cs_n z 2)), .int (nI (cs_n z 3)), .null, .int (cs_i z 2)])) := by
  show some _ = some _
  rw [opN_0 h]; rfl
theorem kF_tpA (h : ¬ cs_n z 4 = 0) : cF cA z 0 0 = some (cs_X z 0 0, .inr (10, [.ref (cs_X z 0 1), .ref (cs_X z 0 6), .ref (cs_X z 0 7), .ref (cs_X z 0 8), .ref (cs_X z 0 9), .ref (cs_X z 0 10), .ref (cs_X z 0 11), .int (nI (cs_n z 0)), .int (nI (cs_n z 1)), .int (nI (cs_n z 2)), .int (nI (cs_n z 3)), .ref (cs_X z 5 0), .int (cs_i z 2)])) := by
  show some _ = some _
  rw [opN_s h]; rfl
end CWK
/-- what holds of the class between calls -/
def invC (z : CS) : Prop := (cs_n z 0 ≤ 12 ∧ cs_n z 1 ≤ 8 ∧ cs_n z 2 ≤ 40 ∧ cs_n z 3 ≤ 80 ∧ cs_n z 4 ≤ cs_n z 0 ∧ cs_n z 5 ≤ cs_n z 1) ∧ (∀ p, p < cs_n z 0 → (0 ≤ (cs_I z 11 p).toInt ∧ (cs_I z 11 p).toInt ≤ (cs_I z 13 p).toInt ∧ (cs_I z 13 p).toInt ≤ 7) ∧ (0 ≤ (cs_I z 12 p).toInt ∧ (cs_I z 12 p).toInt ≤ (cs_I z 14 p).toInt ∧ (cs_I z 14 p).toInt ≤ 5) ∧ cs_N z 0 p ≤ cs_n z 2) ∧ (∀ g, g < cs_n z 1 → cs_N z 1 g = 1 ∨ cs_N z 1 g = 2 ∨ cs_N z 1 g = 4) ∧ (∀ t, t < cs_n z 2 → cs_N z 2 t < cs_n z 1 ∧ cs_N z 3 t < cs_n z 0) ∧ (∀ k, k < cs_n z 3 → cs_N z 4 k < cs_n z 0) ∧ (∀ k, k < 4 → 0 ≤ (cs_I z 9 k).toInt ∧ (cs_I z 9 k).toInt ≤ 48)
theorem kw_met {l : Launch} {y : MethodName} {ws0 ws' : List Cond} {rm : Room} {D : va_G} {tys : List (ClassId × FieldType)} {F : KW} {sz : Nat} {av : List Value} {Qc : Array Value → State → Outcome → State → Prop} {mc ms : Nat} {free : Addr → Prop} {cc : ByteArray} {maxL : Nat} {ret : Option FieldType}
    (hy : plainName y.cls = true) (hw : ws0 = Cond.code y cc maxL ret :: ws') (hlen : (lg_sl av).length ≤ maxL)
    (body : ∀ (p : Program) (e : Env) (s : State) (m : MethodId) (below : List Frame) (meth : Method) (c : Code), p.tables.exec = Jvm.exec → c.code = cc → meth.sig.returnType = ret → c.maxLocals = maxL → s.vm.findClass y.cls = some m.cls → meth.locks = false → meth.name = y.name → (∀ w ∈ ws0, w.before av.toArray s = true) → kP D F s.heap → va_K D vwCl tys s → kD F → nst s → s.heap.size = sz → ∀ ls : Array Slot, lv_has ls maxL (lv_args 0 av) →
      W p l e rm s m av.toArray below meth c s.heap [] 0 0 (MQ below Qc av.toArray s mc ms free) (F0 m 0 ls [])) : Met l y ws0 rm (kw D tys F sz av) Qc mc ms free := by
  refine Met.ofW (cc := cc) (maxL := maxL) (ret := ret) hy hw ?_
  intro p e s m args below meth c s₁ B hml hv
  obtain ⟨rfl, hsz, hP, hK, hD0, hN⟩ := hv
  have hts := atoms_spec (ws := ws0) B.pre
  have hown : s.vm.findClass y.cls = some m.cls := findClass_of_methodNamed B.named
  have hl := lv_entry av (n := maxL) hlen
  rw [lg_entry_eq]
  generalize (lg_sl av ++ List.replicate (maxL - (lg_sl av).length) Slot.unset).toArray = ls at hl ⊢
  exact body p e s m below meth c B.exec B.bytes B.returns hml hown B.notSynchronized (name_of_methodNamed B.named B.method).1 hts hP hK hD0 hN hsz ls hl
