/-! keyed worlds: a cell under each key; a contract of some cells serves in a world that has them -/
theorem Met_mono {l : Launch} {y : MethodName} {ws : List Cond} {rm : Room} {Pc Pc' : Array Value → State → Prop} {Qc Qc' : Array Value → State → Outcome → State → Prop} {mc ms : Nat} {free free' : Addr → Prop} (h : Met l y ws rm Pc Qc mc ms free) (hP : ∀ a s, Pc' a s → Pc a s) (hf : ∀ q, free q → free' q) (hQ : ∀ a s o t, Pc' a s → s.WarmedH t.vm → Qc a s o t → Qc' a s o t) : Met l y ws rm Pc' Qc' mc ms free' :=
  Jvm.Free.MetFree.mono h hP (fun _ _ _ _ _ h => h) (fun a s o t hp hq => ⟨hQ a s o t hp hq.2.choose_spec.1.2.1 hq.1, hq.2.choose, hq.2.choose_spec.1, fun q h => hf _ (hq.2.choose_spec.2 q h)⟩)
abbrev KW : Type := Nat → Nat → Option (Nat × va_E)
def kP (D : va_G) (F : KW) (H : Heap) : Prop := ∀ (i j : Nat) (q : Nat × va_E), F i j = some q → va_at D vwCl q H
def kD (F : KW) : Prop := ∀ (i j i' j' : Nat) (p q : Nat × va_E), F i j = some p → F i' j' = some q → p.1 = q.1 → i = i' ∧ j = j'
def kA (F : KW) (sz : Nat) : Nat → Prop := fun a => (∃ (i j : Nat) (e : va_E), F i j = some (a, e)) ∨ sz ≤ a
def kw (D : va_G) (tys : List (ClassId × FieldType)) (F : KW) (sz : Nat) (av : List Value) : Array Value → State → Prop := va_Pc av (fun U => U.heap.size = sz ∧ kP D F U.heap ∧ va_K D vwCl tys U ∧ kD F ∧ nst U)
/-- no cell twice, and every cell is one of A -/
def kDA (A : Nat → Prop) (F : KW) : Prop := kD F ∧ ∀ (i j : Nat) (q : Nat × va_E), F i j = some q → A q.1
theorem kDA_self {F : KW} {sz : Nat} (h : kD F) : kDA (kA F sz) F := ⟨h, fun i j q e => Or.inl ⟨i, j, q.2, e⟩⟩
def kb (D : va_G) (tys : List (ClassId × FieldType)) (A : Nat → Prop) (F : KW) (t : State) : Prop := kP D F t.heap ∧ va_K D vwCl tys t ∧ kDA A F
/-- the cells ws lie under the keys ks -/
def kAll (F : KW) : List (Nat × Nat) → va_W → Prop
  | [], [] => True
  | k :: ks, c :: ws => F k.1 k.2 = some c ∧ kAll F ks ws
  | [], _ :: _ => False
  | _ :: _, [] => False
theorem kAll_get {F : KW} : ∀ {ks : List (Nat × Nat)} {ws : va_W}, kAll F ks ws → ∀ {n : Nat} {q : Nat × va_E}, ws[n]? = some q → ∃ k, ks[n]? = some k ∧ F k.1 k.2 = some q
  | [], [], _, n, q, h => by simp at h
  | k :: ks, c :: ws, hk, 0, q, h => by
    simp only [List.getElem?_cons_zero, Option.some.injEq] at h
    subst h
    exact ⟨k, rfl, hk.1⟩
  | k :: ks, c :: ws, hk, n + 1, q, h => by
    obtain ⟨k', h1, h2⟩ := kAll_get hk.2 (n := n) (q := q) (by simpa using h)
    exact ⟨k', by simpa using h1, h2⟩
theorem kAll_key {F : KW} : ∀ {ks : List (Nat × Nat)} {ws : va_W}, kAll F ks ws → ∀ {k : Nat × Nat}, k ∈ ks → ∃ (n : Nat) (q : Nat × va_E), ws[n]? = some q ∧ ks[n]? = some k ∧ F k.1 k.2 = some q
  | [], [], _, k, h => absurd h List.not_mem_nil
  | k :: ks, c :: ws, hk, k', h => by
    rcases List.mem_cons.mp h with rfl | h
    · exact ⟨0, c, rfl, rfl, hk.1⟩
    · obtain ⟨n, q, h1, h2, h3⟩ := kAll_key hk.2 h
      exact ⟨n + 1, q, by simpa using h1, by simpa using h2, h3⟩
theorem kAll_P {D : va_G} {F : KW} {H : Heap} {ks : List (Nat × Nat)} {ws : va_W} (h : kP D F H) (hk : kAll F ks ws) : va_P D vwCl ws H := fun n q hn => by
  obtain ⟨k, _, h2⟩ := kAll_get hk hn
  exact h _ _ q h2
theorem kAll_D {F : KW} {ks : List (Nat × Nat)} {ws : va_W} (h : kD F) (hk : kAll F ks ws) (hn : ks.Nodup) : va_D (fun _ => True) ws := ⟨fun i j p q hp hq e => by
  obtain ⟨k1, a1, a2⟩ := kAll_get hk hp
  obtain ⟨k2, b1, b2⟩ := kAll_get hk hq
  obtain ⟨e1, e2⟩ := h _ _ _ _ p q a2 b2 e
  have e3 : k1 = k2 := Prod.ext e1 e2
  subst e3
  exact (List.getElem?_inj (List.getElem?_eq_some_iff.mp a1).1 hn).mp (a1.trans b1.symm), fun _ _ _ => trivial⟩
theorem kAll_A {F : KW} {ks : List (Nat × Nat)} {ws : va_W} {sz : Nat} (hk : kAll F ks ws) : ∀ q, va_A ws sz q → kA F sz q := by
  rintro q (⟨k, e, h⟩ | h)
  · obtain ⟨k', _, h2⟩ := kAll_get hk h
    exact Or.inl ⟨_, _, e, h2⟩
  · exact Or.inr h
theorem kw_blind {D : va_G} {tys : List (ClassId × FieldType)} {F : KW} {sz : Nat} {av : List Value} : FrameBlind (kw D tys F sz av) := fun a U g mk q => by
  obtain ⟨q0, q1, qP, qK, qD, qN⟩ := q
  exact ⟨q0, q1, qP, va_K.moved (u := U) (U := U.calling g mk a) (Vm.Alike.refl U.vm) qK, qD, nst_same (u := U) (U := U.calling g mk a) rfl qN⟩
theorem kw_preS {s : State} {H : Heap} {D : va_G} {tys : List (ClassId × FieldType)} {F : KW} {av : List Value} (hP : kP D F H) (hK : va_K D vwCl tys s) (hD : kD F) (hN : nst s) : PreS s H (kw D tys F H.size av) av :=
  ⟨kw_blind, fun U hU hW => ⟨rfl, by rw [hU], by rw [hU]; exact hP, va_K.moved hW.alike hK, hD, nst_warm hW hN⟩⟩
theorem kw_preV {s : State} {H : Heap} {D : va_G} {tys : List (ClassId × FieldType)} {F : KW} {C : String} {b : Addr} {As : List Value} (hr : ∃ cellB : Cell, H[b]? = some cellB ∧ cellB.vm.isStatics = false ∧ s.vm.findClass C = some cellB.cls) (hP : kP D F H) (hK : va_K D vwCl tys s) (hD : kD F) (hN : nst s) : PreV s H C b (kw D tys F H.size (.ref b :: As)) As :=
  ⟨kw_blind, hr, fun U hU hW => ⟨rfl, by rw [hU], by rw [hU]; exact hP, va_K.moved hW.alike hK, hD, nst_warm hW hN⟩⟩
/-- a contract of some cells, in a world that has them -/
theorem klift {l : Launch} {y : MethodName} {ws : List Cond} {rm : Room} {D : va_G} {tys tys' : List (ClassId × FieldType)} {F : KW} {sz : Nat} {av : List Value} {Qs Qb : Array Value → State → Outcome → State → Prop} {mc ms : Nat} {ks : List (Nat × Nat)} {wc : va_W}
    (hM : Met l y ws rm (pw D tys' wc sz av) Qs mc ms (va_A wc sz)) (hk : kAll F ks wc) (hn : ks.Nodup) (is : List Nat) (hs : is.filterMap (fun i => tys[i]?) = tys')
    (hQ : ∀ a s o t, s.heap.size = sz → kP D F s.heap → kD F → va_K D vwCl tys s → s.WarmedH t.vm → Qs a s o t → Qb a s o t) : Met l y ws rm (kw D tys F sz av) Qb mc ms (kA F sz) :=
  Met_mono hM (fun a s h => ⟨h.1, h.2.1, kAll_P h.2.2.1 hk, h.2.2.2.1.sub is hs, kAll_D h.2.2.2.2.1 hk hn, h.2.2.2.2.2⟩) (kAll_A hk) (fun a s o t h hW hq => hQ a s o t h.2.1 h.2.2.1 h.2.2.2.2.1 h.2.2.2.1 hW hq)
/-- the same of a contract that changes nothing -/
theorem kliftp {l : Launch} {y : MethodName} {ws : List Cond} {rm : Room} {D : va_G} {tys tys' : List (ClassId × FieldType)} {F : KW} {sz : Nat} {av : List Value} {Qs Qb : Array Value → State → Outcome → State → Prop} {ks : List (Nat × Nat)} {wc : va_W}
    (hM : Met l y ws rm (pw D tys' wc sz av) Qs 0 0 (fun _ => False)) (hk : kAll F ks wc) (hn : ks.Nodup) (is : List Nat) (hs : is.filterMap (fun i => tys[i]?) = tys')
    (hQ : ∀ a s o t, s.heap.size = sz → kP D F s.heap → kD F → va_K D vwCl tys s → s.WarmedH t.vm → Qs a s o t → Qb a s o t) : Met l y ws rm (kw D tys F sz av) Qb 0 0 (kA F sz) :=
  Met_mono hM (fun a s h => ⟨h.1, h.2.1, kAll_P h.2.2.1 hk, h.2.2.2.1.sub is hs, kAll_D h.2.2.2.2.1 hk hn, h.2.2.2.2.2⟩) (fun q h => h.elim) (fun a s o t h hW hq => hQ a s o t h.2.1 h.2.2.1 h.2.2.2.2.1 h.2.2.2.1 hW hq)
/-- behind the call: the callee's cells are new, all others are as they were -/
theorem kjoin {D : va_G} {F F' : KW} {ks ks' : List (Nat × Nat)} {wc w1 : va_W} {s t : State} {sz : Nat} (hP : kP D F s.heap) (hD : kD F) (hk : kAll F ks wc) (hsz : s.heap.size = sz) (hF : va_F (va_A wc sz) s t) (hP1 : va_P D vwCl w1 t.heap) (hD1 : va_D (va_A wc sz) w1) (hk' : kAll F' ks' w1)
    (hout : ∀ i j, (i, j) ∉ ks' → F' i j = none ∨ ((i, j) ∉ ks ∧ F' i j = F i j)) : kP D F' t.heap ∧ kDA (kA F sz) F' ∧ va_F (kA F sz) s t := by
  have key : ∀ i j q, F' i j = some q → (∃ n : Nat, w1[n]? = some q ∧ ks'[n]? = some (i, j)) ∨ ((i, j) ∉ ks ∧ F i j = some q) := by
    intro i j q h
    by_cases hm : (i, j) ∈ ks'
    · obtain ⟨n, q', h1, h2, h3⟩ := kAll_key hk' hm
      have e : q' = q := Option.some.inj (h3.symm.trans h)
      subst e
      exact Or.inl ⟨n, h1, h2⟩
    · rcases hout i j hm with h0 | ⟨h0, h1⟩
      · rw [h0] at h; cases h
      · exact Or.inr ⟨h0, h1.symm.trans h⟩
  have apart : ∀ i j q, (i, j) ∉ ks → F i j = some q → q.1 < s.heap.size ∧ ¬ va_A wc sz q.1 := by
    intro i j q hn h
    have hl := (hP i j q h).lt
    refine ⟨hl, fun ha => ?_⟩
    rcases ha with ⟨n, e, ha⟩ | ha
    · obtain ⟨k, h1, h2⟩ := kAll_get hk ha
      obtain ⟨e1, e2⟩ := hD _ _ _ _ q (q.1, e) h h2 rfl
      have e3 : (i, j) = k := Prod.ext e1 e2
      exact hn (e3 ▸ List.mem_of_getElem? h1)
    · omega
  refine ⟨fun i j q h => ?_, ⟨fun i j i' j' p q h1 h2 e => ?_, fun i j q h => ?_⟩, hF.1, fun q h1 h2 => hF.2 q h1 (fun h => h2 (kAll_A hk q h))⟩
  · rcases key i j q h with ⟨n, h1, _⟩ | ⟨h0, h1⟩
    · exact hP1 n q h1
    · obtain ⟨a, b⟩ := apart i j q h0 h1
      exact (hP i j q h1).kept (hF.2 _ a b)
  · rcases key i j p h1 with ⟨n, a1, a2⟩ | ⟨a1, a2⟩ <;> rcases key i' j' q h2 with ⟨n', b1, b2⟩ | ⟨b1, b2⟩
    · have en := hD1.1 n n' p q a1 b1 e
      subst en
      have := Option.some.inj (a2.symm.trans b2)
      exact ⟨congrArg Prod.fst this, congrArg Prod.snd this⟩
    · exact absurd (by rw [← e]; exact hD1.2 n p a1) (apart i' j' q b1 b2).2
    · exact absurd (by rw [e]; exact hD1.2 n' q b1) (apart i j p a1 a2).2
    · exact hD _ _ _ _ p q a2 b2 e
  · rcases key i j q h with ⟨n, h1, _⟩ | ⟨_, h1⟩
    · exact kAll_A hk _ (hD1.2 n q h1)
    · exact Or.inl ⟨i, j, q.2, h1⟩
theorem kw_same {D : va_G} {F : KW} {s t : State} {sz : Nat} (hP : kP D F s.heap) (h : t.heap = s.heap) : kP D F t.heap ∧ va_F (kA F sz) s t := ⟨by rw [h]; exact hP, by rw [h]; exact Nat.le_refl _, fun q _ _ => by rw [h]⟩
/-- answers of a contract over a keyed world -/
def kQi {S : Type} (D : va_G) (tys : List (ClassId × FieldType)) (F : KW) (sz : Nat) (G : S → KW) (post : Int32 → S → Prop) : Array Value → State → Outcome → State → Prop := va_Qi post (fun u t => kb D tys (kA F sz) (G u) t) (kA F sz)
def kQl {S : Type} (D : va_G) (tys : List (ClassId × FieldType)) (F : KW) (sz : Nat) (G : S → KW) (post : Int64 → S → Prop) : Array Value → State → Outcome → State → Prop := va_Ql post (fun u t => kb D tys (kA F sz) (G u) t) (kA F sz)
