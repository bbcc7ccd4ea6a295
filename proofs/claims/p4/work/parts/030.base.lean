/-! our own base: the four links between nest mates, one form of a contract's start, one form of its world behind -/
def nst (U : State) : Prop := (va_Nw (.methodLinkNest RX3 34 yX10_isWithin RX10) U ∧ va_Nw (.methodLinkNest RX7 19 yX10_isWithin RX10) U ∧ va_Nw (.methodLinkNest RX10 44 yX7_init RX10) U ∧ va_Nw (.methodLinkNest RX10 51 yX9_init RX10) U) ∧ (va_AO RX6 U ∧ va_AO RX2 U ∧ va_AO RX8 U ∧ va_AO RX5 U ∧ va_AO RX7 U) ∧ va_Nw (.castable RX1 RX2) U ∧ va_Nw (.castable RX4 RX2) U ∧ va_Nw (.castable RX4 RX1) U ∧ va_Nc RX1 RX4 U ∧ va_Nc RX2 RX1 U ∧ va_Nc RX2 RX4 U
theorem nst_same {u U : State} (h : u.vm = U.vm) (hN : nst u) : nst U := by
  have hA : u.vm.Alike U.vm := by rw [h]; exact Vm.Alike.refl _
  exact ⟨⟨va_Nw.same rfl h hN.1.1, va_Nw.same rfl h hN.1.2.1, va_Nw.same rfl h hN.1.2.2.1, va_Nw.same rfl h hN.1.2.2.2⟩, ⟨va_AO.moved hA hN.2.1.1, va_AO.moved hA hN.2.1.2.1, va_AO.moved hA hN.2.1.2.2.1, va_AO.moved hA hN.2.1.2.2.2.1, va_AO.moved hA hN.2.1.2.2.2.2⟩, va_Nw.same rfl h hN.2.2.1, va_Nw.same rfl h hN.2.2.2.1, va_Nw.same rfl h hN.2.2.2.2.1, va_Nc.moved hA hN.2.2.2.2.2.1, va_Nc.moved hA hN.2.2.2.2.2.2.1, va_Nc.moved hA hN.2.2.2.2.2.2.2⟩
theorem nst_warm {s U : State} (hW : s.WarmedH U.vm) (hN : nst s) : nst U :=
  ⟨⟨va_Nw.warmM hW hN.1.1, va_Nw.warmM hW hN.1.2.1, va_Nw.warmM hW hN.1.2.2.1, va_Nw.warmM hW hN.1.2.2.2⟩, ⟨va_AO.moved hW.alike hN.2.1.1, va_AO.moved hW.alike hN.2.1.2.1, va_AO.moved hW.alike hN.2.1.2.2.1, va_AO.moved hW.alike hN.2.1.2.2.2.1, va_AO.moved hW.alike hN.2.1.2.2.2.2⟩, va_Nw.warmC hW hN.2.2.1, va_Nw.warmC hW hN.2.2.2.1, va_Nw.warmC hW hN.2.2.2.2.1, va_Nc.moved hW.alike hN.2.2.2.2.2.1, va_Nc.moved hW.alike hN.2.2.2.2.2.2.1, va_Nc.moved hW.alike hN.2.2.2.2.2.2.2⟩
def pw (D : va_G) (tys : List (ClassId × FieldType)) (ws : va_W) (sz : Nat) (av : List Value) : Array Value → State → Prop := va_Pc av (fun U => U.heap.size = sz ∧ va_P D vwCl ws U.heap ∧ va_K D vwCl tys U ∧ va_D (fun _ => True) ws ∧ nst U)
theorem pw_blind {D : va_G} {tys : List (ClassId × FieldType)} {ws : va_W} {sz : Nat} {av : List Value} : FrameBlind (pw D tys ws sz av) := fun a U g mk q => by
  obtain ⟨q0, q1, qP, qK, qD, qN⟩ := q
  exact ⟨q0, q1, qP, va_K.moved (u := U) (U := U.calling g mk a) (Vm.Alike.refl U.vm) qK, qD, nst_same (u := U) (U := U.calling g mk a) rfl qN⟩
theorem pw_preS {s : State} {H : Heap} {D : va_G} {tys : List (ClassId × FieldType)} {ws : va_W} {A : Nat → Prop} {av : List Value} (hP : va_P D vwCl ws H) (hK : va_K D vwCl tys s) (hD : va_D A ws) (hN : nst s) : PreS s H (pw D tys ws H.size av) av :=
  ⟨pw_blind, fun U hU hW => ⟨rfl, by rw [hU], by rw [hU]; exact hP, va_K.moved hW.alike hK, hD.weaken (fun _ _ _ _ => trivial), nst_warm hW hN⟩⟩
theorem pw_preV {s : State} {H : Heap} {D : va_G} {tys : List (ClassId × FieldType)} {ws : va_W} {A : Nat → Prop} {C : String} {b : Addr} {As : List Value} (hr : ∃ cellB : Cell, H[b]? = some cellB ∧ cellB.vm.isStatics = false ∧ s.vm.findClass C = some cellB.cls) (hP : va_P D vwCl ws H) (hK : va_K D vwCl tys s) (hD : va_D A ws) (hN : nst s) : PreV s H C b (pw D tys ws H.size (.ref b :: As)) As :=
  ⟨pw_blind, hr, fun U hU hW => ⟨rfl, by rw [hU], by rw [hU]; exact hP, va_K.moved hW.alike hK, hD.weaken (fun _ _ _ _ => trivial), nst_warm hW hN⟩⟩
/-- a contract's preamble, once for all -/
theorem pw_met {l : Launch} {y : MethodName} {ws0 ws' : List Cond} {rm : Room} {D : va_G} {tys : List (ClassId × FieldType)} {ws : va_W} {sz : Nat} {av : List Value} {Qc : Array Value → State → Outcome → State → Prop} {mc ms : Nat} {free : Addr → Prop} {cc : ByteArray} {maxL : Nat} {ret : Option FieldType}
    (hy : plainName y.cls = true) (hw : ws0 = Cond.code y cc maxL ret :: ws') (hlen : (lg_sl av).length ≤ maxL)
    (body : ∀ (p : Program) (e : Env) (s : State) (m : MethodId) (below : List Frame) (meth : Method) (c : Code), p.tables.exec = Jvm.exec → c.code = cc → meth.sig.returnType = ret → c.maxLocals = maxL → s.vm.findClass y.cls = some m.cls → meth.locks = false → meth.name = y.name → (∀ w ∈ ws0, w.before av.toArray s = true) → va_P D vwCl ws s.heap → va_K D vwCl tys s → va_D (va_A ws s.heap.size) ws → nst s → s.heap.size = sz → (∀ q : Nat, s.heap.size ≤ q → va_A ws s.heap.size q) → va_S (va_A ws s.heap.size) s.heap s.heap [] → ∀ ls : Array Slot, lv_has ls maxL (lv_args 0 av) →
      W p l e rm s m av.toArray below meth c s.heap [] 0 0 (MQ below Qc av.toArray s mc ms free) (F0 m 0 ls [])) : Met l y ws0 rm (pw D tys ws sz av) Qc mc ms free := by
  refine Met.ofW (cc := cc) (maxL := maxL) (ret := ret) hy hw ?_
  intro p e s m args below meth c s₁ B hml hv
  obtain ⟨rfl, hsz, hP, hK, hD0, hN⟩ := hv
  have hts := atoms_spec (ws := ws0) B.pre
  have hown : s.vm.findClass y.cls = some m.cls := findClass_of_methodNamed B.named
  have hl := lv_entry av (n := maxL) hlen
  rw [lg_entry_eq]
  generalize (lg_sl av ++ List.replicate (maxL - (lg_sl av).length) Slot.unset).toArray = ls at hl ⊢
  exact body p e s m below meth c B.exec B.bytes B.returns hml hown B.notSynchronized (name_of_methodNamed B.named B.method).1 hts hP hK (hD0.self (sz := s.heap.size)) hN hsz (fun q h => Or.inr h) va_S.rf ls hl
/-- the world behind a method -/
def bw (D : va_G) (tys : List (ClassId × FieldType)) (A : Nat → Prop) (ws : va_W) (t : State) : Prop := va_P D vwCl ws t.heap ∧ va_K D vwCl tys t ∧ va_D A ws
