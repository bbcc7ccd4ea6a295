/-- a contract's start that asks nothing of the heap -/
def p0 (av : List Value) : Array Value → State → Prop := fun v U => v = av.toArray ∧ nst U
theorem p0_preS {s : State} {H : Heap} {av : List Value} (hN : nst s) : PreS s H (p0 av) av :=
  ⟨fun a U g mk q => ⟨q.1, nst_same (u := U) (U := U.calling g mk a) rfl q.2⟩, fun U hU hW => ⟨rfl, nst_warm hW hN⟩⟩
theorem p0_met {l : Launch} {y : MethodName} {ws0 ws' : List Cond} {rm : Room} {av : List Value} {Qc : Array Value → State → Outcome → State → Prop} {mc ms : Nat} {free : Addr → Prop} {cc : ByteArray} {maxL : Nat} {ret : Option FieldType}
    (hy : plainName y.cls = true) (hw : ws0 = Cond.code y cc maxL ret :: ws') (hlen : (lg_sl av).length ≤ maxL)
    (body : ∀ (p : Program) (e : Env) (s : State) (m : MethodId) (below : List Frame) (meth : Method) (c : Code), p.tables.exec = Jvm.exec → c.code = cc → meth.sig.returnType = ret → c.maxLocals = maxL → s.vm.findClass y.cls = some m.cls → meth.locks = false → meth.name = y.name → (∀ w ∈ ws0, w.before av.toArray s = true) → nst s → ∀ ls : Array Slot, lv_has ls maxL (lv_args 0 av) →
      W p l e rm s m av.toArray below meth c s.heap [] 0 0 (MQ below Qc av.toArray s mc ms free) (F0 m 0 ls [])) : Met l y ws0 rm (p0 av) Qc mc ms free := by
  refine Met.ofW (cc := cc) (maxL := maxL) (ret := ret) hy hw ?_
  intro p e s m args below meth c s₁ B hml hv
  obtain ⟨rfl, hN⟩ := hv
  have hts := atoms_spec (ws := ws0) B.pre
  have hown : s.vm.findClass y.cls = some m.cls := findClass_of_methodNamed B.named
  have hl := lv_entry av (n := maxL) hlen
  rw [lg_entry_eq]
  generalize (lg_sl av ++ List.replicate (maxL - (lg_sl av).length) Slot.unset).toArray = ls at hl ⊢
  exact body p e s m below meth c B.exec B.bytes B.returns hml hown B.notSynchronized (name_of_methodNamed B.named B.method).1 hts hN ls hl
/-- two array classes of one kind are one -/
theorem ty_one {D : va_G} {cl : List vw_C} {tys : List (ClassId × FieldType)} {U : State} {cA cB : ClassId} {ty : FieldType} (hK : va_K D cl tys U) (i j : Nat) (h1 : tys[i]? = some (cA, ty)) (h2 : tys[j]? = some (cB, ty)) : cA = cB := by
  have a := (hK.2 i _ h1).2
  have b := (hK.2 j _ h2).2
  cases ty with
  | object C =>
    obtain ⟨_, _, _, _, _, ha⟩ := a
    obtain ⟨_, _, _, _, _, hb⟩ := b
    exact Option.some.inj (ha.symm.trans hb)
  | _ => exact Option.some.inj (Eq.trans (Eq.symm a) b)
/-- an array's contents count below its length alone -/
theorem va_P_cg {D : va_G} {cl : List vw_C} {ws : va_W} {H : Heap} (hP : va_P D cl ws H) (k : Nat) {a n : Nat} {cA : ClassId} {f : Nat → Int32} (g : Nat → Int32) (hk : ws[k]? = some (a, .inl (cA, n, .inl f))) (h : ∀ j, j < n → f j = g j) : va_P D cl (ws.set k (a, .inl (cA, n, .inl g))) H := by
  intro i q hi
  by_cases hik : i = k
  · subst hik
    have hl : i < ws.length := (List.getElem?_eq_some_iff.mp hk).1
    rw [List.getElem?_set_self hl] at hi
    cases hi
    have h0 : H[a]? = some (vp_cell cA (n, .inl f)) := hP i _ hk
    show H[a]? = some (vp_cell cA (n, .inl g))
    rw [h0, vp_cell_i, vp_cell_i]
    congr 1
    unfold arrV
    congr 1
    apply Array.ext'
    apply List.ext_getElem?
    intro j
    by_cases hj : j < n
    · simp [hj, h j hj]
    · simp [hj]
  · rw [List.getElem?_set_ne (fun q => hik q.symm)] at hi
    exact hP i q hi
theorem va_D_cg {A : Nat → Prop} {ws : va_W} (hD : va_D A ws) (k : Nat) {a n : Nat} {cA : ClassId} {f : Nat → Int32} (g : Nat → Int32) (hk : ws[k]? = some (a, .inl (cA, n, .inl f))) : va_D A (ws.set k (a, .inl (cA, n, .inl g))) := hD.set hk
theorem in_w (x a b : Int32) {A B : Int64} (hA : a.toInt64 = A) (hB : b.toInt64 = B) : (if A ≤ x.toInt64 ∧ x.toInt64 ≤ B then (1 : Int32) else 0) = if a ≤ x ∧ x ≤ b then 1 else 0 := by
  subst hA; subst hB
  simp only [fa_wide_le]
