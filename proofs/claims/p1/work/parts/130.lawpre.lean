/-! THE CLAIM OUT OF ONE WALK OF THE LAW'S BODY. Your part is whole_start (and what it stands on); all else here is the same for every law, but numbers. -/
def R_law : String := "TributePitchesLaw"
def lw_P (b : Addr) (xs : List Int32) (args : Array Value) (s : State) : Prop := args = #[.ref b] ∧ s.IntsAt b xs ∧ xs.length ≤ 6 ∧ (Jvm.Cond.and given_1 narrow_1).before args s = true
def lw_Q (_ : Array Value) (s : State) (o : Outcome) (t : State) : Prop := o = .returned (some (.int 1)) ∧ Framed s o t [] 600000 7302250
def lw_Z (below : List Frame) (a : Array Value) (s : State) : State → Prop := fun t => ∃ o, t.status = .running ∧ Ended t below o ∧ lw_Q a s o t
/-- the law's own end, with 1 on the stack, nothing written that was there before, its room as the claim has it -/
theorem lw_ret {p : Program} {l : Launch} {e : Env} {s : State} {m : MethodId} {below : List Frame} {meth : Method} {c : Code} {b : Nat} (hx : p.tables.exec = Jvm.exec) (hb : c.code = code) (hr : meth.sig.returnType = ret) (hlocks : meth.locks = false) {pc : Nat} {H : Heap} {ls : Array Slot} (hdg : decode code pc = .ok (.ireturn, 1)) : W p l e room_1 s m #[Value.ref b] below meth c H [] 600000 7302250 (lw_Z below #[Value.ref b] s) (F0 m pc ls [.int 1]) := by
  intro T hT X
  obtain ⟨fs, hret, hrun, hended, hW, hframe⟩ := X.leave (v := some (.int 1)) (hlocks := hlocks) (fun h => by rw [hr] at h; cases h)
  have hmeth' : T.vm.method? m = some meth := X.method'
  refine ⟨T.setFrames fs, ?_, .returned (some (.int 1)), hrun, hended, rfl, ⟨_, rfl⟩, hW, hframe⟩
  jvm_step X.here [X.here.top, hx, hb, hdg, hmeth', hr, ret, narrow_b1]
  (try refine ⟨rfl, ?_⟩); (try refine ⟨rfl, ?_⟩)
  first | (intro acts; rw [hret _ acts rfl rfl rfl]) | rw [hret _ _ rfl rfl rfl]
  exact Steps.refl _
/-- what holds at the law's entry: the machine, the code, the tables' words (any of lw_tbl by 'hts w (by decide +kernel)'), the script of L ints xs at the cell b, what the Statement gives of the start (any of its parts by flat_of_before) -/
def lw_At (p : Program) (s : State) (m : MethodId) (meth : Method) (c : Code) (b L : Nat) (xs : Nat → Int32) : Prop :=
  p.tables.exec = Jvm.exec ∧ c.code = code ∧ meth.sig.returnType = ret ∧ c.maxLocals = 4 ∧ s.vm.findClass R_law = some m.cls ∧ (∀ w ∈ lw_tbl, w.before #[Value.ref b] s = true) ∧ va_X b L xs s s.heap ∧ b < s.heap.size ∧ meth.locks = false ∧ (Jvm.Cond.and given_1 narrow_1).before #[Value.ref b] s = true
theorem short_script {L : Nat} (h : L ≤ 6) (h6 : ¬ L = 6) : nI L - 6 < 0 := by
  have h5 : L ≤ 5 := by omega
  rcases (show L = 0 ∨ L = 1 ∨ L = 2 ∨ L = 3 ∨ L = 4 ∨ L = 5 by omega) with rfl | rfl | rfl | rfl | rfl | rfl <;> decide
theorem tb_out31 {w : Int32} (h0 : ¬ w = 0) (h1 : ¬ w = 1) (h2 : ¬ w = 2) (h3 : ¬ w = 3) (h4 : ¬ w = 4) (h5 : ¬ w = 5) (h6 : ¬ w = 6) (h7 : ¬ w = 7) (h8 : ¬ w = 8) (h9 : ¬ w = 9) (h10 : ¬ w = 10) (h11 : ¬ w = 11) (h12 : ¬ w = 12) (h13 : ¬ w = 13) (h14 : ¬ w = 14) (h15 : ¬ w = 15) (h16 : ¬ w = 16) (h17 : ¬ w = 17) (h18 : ¬ w = 18) (h19 : ¬ w = 19) (h20 : ¬ w = 20) (h21 : ¬ w = 21) (h22 : ¬ w = 22) (h23 : ¬ w = 23) (h24 : ¬ w = 24) (h25 : ¬ w = 25) (h26 : ¬ w = 26) (h27 : ¬ w = 27) (h28 : ¬ w = 28) (h29 : ¬ w = 29) (h30 : ¬ w = 30) : w.toInt < 0 ∨ 30 < w.toInt := by
  have e0 : ¬ w.toInt = 0 := fun q => h0 ((fa_eq _ _).mpr q)
  have e1 : ¬ w.toInt = 1 := fun q => h1 ((fa_eq _ _).mpr q)
  have e2 : ¬ w.toInt = 2 := fun q => h2 ((fa_eq _ _).mpr q)
  have e3 : ¬ w.toInt = 3 := fun q => h3 ((fa_eq _ _).mpr q)
  have e4 : ¬ w.toInt = 4 := fun q => h4 ((fa_eq _ _).mpr q)
  have e5 : ¬ w.toInt = 5 := fun q => h5 ((fa_eq _ _).mpr q)
  have e6 : ¬ w.toInt = 6 := fun q => h6 ((fa_eq _ _).mpr q)
  have e7 : ¬ w.toInt = 7 := fun q => h7 ((fa_eq _ _).mpr q)
  have e8 : ¬ w.toInt = 8 := fun q => h8 ((fa_eq _ _).mpr q)
  have e9 : ¬ w.toInt = 9 := fun q => h9 ((fa_eq _ _).mpr q)
  have e10 : ¬ w.toInt = 10 := fun q => h10 ((fa_eq _ _).mpr q)
  have e11 : ¬ w.toInt = 11 := fun q => h11 ((fa_eq _ _).mpr q)
  have e12 : ¬ w.toInt = 12 := fun q => h12 ((fa_eq _ _).mpr q)
  have e13 : ¬ w.toInt = 13 := fun q => h13 ((fa_eq _ _).mpr q)
  have e14 : ¬ w.toInt = 14 := fun q => h14 ((fa_eq _ _).mpr q)
  have e15 : ¬ w.toInt = 15 := fun q => h15 ((fa_eq _ _).mpr q)
  have e16 : ¬ w.toInt = 16 := fun q => h16 ((fa_eq _ _).mpr q)
  have e17 : ¬ w.toInt = 17 := fun q => h17 ((fa_eq _ _).mpr q)
  have e18 : ¬ w.toInt = 18 := fun q => h18 ((fa_eq _ _).mpr q)
  have e19 : ¬ w.toInt = 19 := fun q => h19 ((fa_eq _ _).mpr q)
  have e20 : ¬ w.toInt = 20 := fun q => h20 ((fa_eq _ _).mpr q)
  have e21 : ¬ w.toInt = 21 := fun q => h21 ((fa_eq _ _).mpr q)
  have e22 : ¬ w.toInt = 22 := fun q => h22 ((fa_eq _ _).mpr q)
  have e23 : ¬ w.toInt = 23 := fun q => h23 ((fa_eq _ _).mpr q)
  have e24 : ¬ w.toInt = 24 := fun q => h24 ((fa_eq _ _).mpr q)
  have e25 : ¬ w.toInt = 25 := fun q => h25 ((fa_eq _ _).mpr q)
  have e26 : ¬ w.toInt = 26 := fun q => h26 ((fa_eq _ _).mpr q)
  have e27 : ¬ w.toInt = 27 := fun q => h27 ((fa_eq _ _).mpr q)
  have e28 : ¬ w.toInt = 28 := fun q => h28 ((fa_eq _ _).mpr q)
  have e29 : ¬ w.toInt = 29 := fun q => h29 ((fa_eq _ _).mpr q)
  have e30 : ¬ w.toInt = 30 := fun q => h30 ((fa_eq _ _).mpr q)
  omega
