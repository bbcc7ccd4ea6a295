/-! the law's world between calls: the class's cells and the reference's, apart from each other -/
def jS (D : va_G) (cA : Nat → ClassId) (qm : Nat) (cI cJ cZ : ClassId) (ad : Nat → Nat) (A : Nat → Prop) (zc : CS) (zr : RS2) (H : Heap) : Prop :=
  kP D (cF cA zc) H ∧ kDA A (cF cA zc) ∧ va_P D vwCl (rW qm cI cJ cZ ad zr) H ∧ va_D A (rW qm cI cJ cZ ad zr) ∧ ∀ (k : Nat) (q : Nat × va_E), (rW qm cI cJ cZ ad zr)[k]? = some q → ∀ (i j : Nat) (x : Nat × va_E), cF cA zc i j = some x → x.1 ≠ q.1
section JS
variable {D : va_G} {cA : Nat → ClassId} {qm : Nat} {cI cJ cZ : ClassId} {ad : Nat → Nat} {A : Nat → Prop} {zc u : CS} {zr v : RS2} {H H1 H0 : Heap} {locs : List Loc} {t : State} {tys : List (ClassId × FieldType)}
theorem jS.freeC (h : jS D cA qm cI cJ cZ ad A zc zr H) (hS : va_S A H0 H locs) (hA : ∀ q, H0.size ≤ q → A q) : ∀ q, kA (cF cA zc) H.size q → A q := by
  rintro q (⟨i, j, e, h1⟩ | h1)
  · exact h.2.1.2 i j (q, e) h1
  · exact hA q (Nat.le_trans hS.1 h1)
theorem jS.freeR (h : jS D cA qm cI cJ cZ ad A zc zr H) (hS : va_S A H0 H locs) (hA : ∀ q, H0.size ≤ q → A q) : ∀ q, va_A (rW qm cI cJ cZ ad zr) H.size q → A q := by
  rintro q (⟨k, e, h1⟩ | h1)
  · exact h.2.2.2.1.2 k (q, e) h1
  · exact hA q (Nat.le_trans hS.1 h1)
theorem rW_adr (z z' : RS2) (k : Nat) {q : Nat × va_E} (h : (rW qm cI cJ cZ ad z)[k]? = some q) : ∃ e, (rW qm cI cJ cZ ad z')[k]? = some (q.1, e) := by
  have h1 : (rW qm cI cJ cZ ad z).map Prod.fst = (rW qm cI cJ cZ ad z').map Prod.fst := rfl
  have h2 : ((rW qm cI cJ cZ ad z').map Prod.fst)[k]? = some q.1 := by rw [← h1, List.getElem?_map, h]; rfl
  rw [List.getElem?_map] at h2
  cases h3 : (rW qm cI cJ cZ ad z')[k]? with
  | none => rw [h3] at h2; cases h2
  | some x =>
    rw [h3] at h2
    have h4 : x.1 = q.1 := Option.some.inj h2
    exact ⟨x.2, by rw [← h4]⟩
/-- behind a call of the class -/
theorem jS_C (h : jS D cA qm cI cJ cZ ad A zc zr H) (hF : ∀ q, kA (cF cA zc) H.size q → A q) (ht : t.heap = H1) (hB : kb D tys (kA (cF cA zc) H.size) (cF cA u) t) (hk : ∀ q : Nat, q < H.size → ¬ kA (cF cA zc) H.size q → H1[q]? = H[q]?) : jS D cA qm cI cJ cZ ad A u zr H1 := by
  obtain ⟨h1, h2, h3, h4, h5⟩ := h
  obtain ⟨b1, _, b2, b3⟩ := hB
  rw [ht] at b1
  have ap : ∀ (k : Nat) (q : Nat × va_E), (rW qm cI cJ cZ ad zr)[k]? = some q → q.1 < H.size ∧ ¬ kA (cF cA zc) H.size q.1 := by
    intro k q hq
    have hl := (h3 k q hq).lt
    refine ⟨hl, ?_⟩
    rintro (⟨i, j, e, h⟩ | h)
    · exact h5 k q hq i j _ h rfl
    · omega
  refine ⟨b1, ⟨b2, fun i j q h => hF _ (b3 i j q h)⟩, fun k q h => (h3 k q h).kept (hk q.1 (ap k q h).1 (ap k q h).2), h4, fun k q h i j x hx e => ?_⟩
  exact (ap k q h).2 (e ▸ b3 i j x hx)
/-- behind a call of the reference -/
theorem jS_R (h : jS D cA qm cI cJ cZ ad A zc zr H) (hF : ∀ q, va_A (rW qm cI cJ cZ ad zr) H.size q → A q) (ht : t.heap = H1) (hB : bw D tys (va_A (rW qm cI cJ cZ ad zr) H.size) (rW qm cI cJ cZ ad v) t) (hk : ∀ q : Nat, q < H.size → ¬ va_A (rW qm cI cJ cZ ad zr) H.size q → H1[q]? = H[q]?) : jS D cA qm cI cJ cZ ad A zc v H1 := by
  obtain ⟨h1, h2, h3, h4, h5⟩ := h
  obtain ⟨b1, _, b3⟩ := hB
  rw [ht] at b1
  have ap : ∀ (i j : Nat) (x : Nat × va_E), cF cA zc i j = some x → x.1 < H.size ∧ ¬ va_A (rW qm cI cJ cZ ad zr) H.size x.1 := by
    intro i j x hx
    have hl := (h1 i j x hx).lt
    refine ⟨hl, ?_⟩
    rintro (⟨k, e, h⟩ | h)
    · exact h5 k _ h i j x hx rfl
    · omega
  refine ⟨fun i j x hx => (h1 i j x hx).kept (hk x.1 (ap i j x hx).1 (ap i j x hx).2), h2, b1, b3.weaken (fun k q _ h => hF q.1 h), fun k q hq i j x hx e => ?_⟩
  obtain ⟨e', h'⟩ := rW_adr v zr k hq
  exact h5 k _ h' i j x hx e
theorem k_recv {s : State} (hK : va_K D vwCl tys s) (hP : kP D (cF cA zc) H) : ∃ cellB : Cell, H[cs_X zc 0 0]? = some cellB ∧ cellB.vm.isStatics = false ∧ s.vm.findClass RX10 = some cellB.cls :=
  va_recv (ci := 10) (q0 := 0) hK (kAll_P (ks := [(0, 0)]) (ws := [(cs_X zc 0 0, .inr (10, [.ref (cs_X zc 0 1), .ref (cs_X zc 0 6), .ref (cs_X zc 0 7), .ref (cs_X zc 0 8), .ref (cs_X zc 0 9), .ref (cs_X zc 0 10), .ref (cs_X zc 0 11), .int (nI (cs_n zc 0)), .int (nI (cs_n zc 1)), .int (nI (cs_n zc 2)), .int (nI (cs_n zc 3)), va_rf (opN (cs_n zc 4) (fun _ => cs_X zc 5 0)), .int (cs_i zc 2)]))]) hP ⟨rfl, trivial⟩) rfl rfl
/-- a list of cells under keys, all other keys empty -/
theorem kStart {F : KW} {ks : List (Nat × Nat)} {ws : va_W} (hP : va_P D vwCl ws H) (hD : va_D A ws) (hk : kAll F ks ws) (ho : ∀ i j, (i, j) ∉ ks → F i j = none) : kP D F H ∧ kDA A F ∧ ∀ (i j : Nat) (q : Nat × va_E), F i j = some q → ∃ n : Nat, ws[n]? = some q := by
  have key : ∀ i j q, F i j = some q → ∃ n : Nat, ws[n]? = some q ∧ ks[n]? = some (i, j) := by
    intro i j q h
    by_cases hm : (i, j) ∈ ks
    · obtain ⟨n, q', h1, h2, h3⟩ := kAll_key hk hm
      have e : q' = q := Option.some.inj (h3.symm.trans h)
      subst e
      exact ⟨n, h1, h2⟩
    · rw [ho i j hm] at h; cases h
  refine ⟨fun i j q h => ?_, ⟨fun i j i' j' p q h1 h2 e => ?_, fun i j q h => ?_⟩, fun i j q h => ?_⟩
  · obtain ⟨n, h1, _⟩ := key i j q h
    exact hP n q h1
  · obtain ⟨n, a1, a2⟩ := key i j p h1
    obtain ⟨n', b1, b2⟩ := key i' j' q h2
    have en := hD.1 n n' p q a1 b1 e
    subst en
    have := Option.some.inj (a2.symm.trans b2)
    exact ⟨congrArg Prod.fst this, congrArg Prod.snd this⟩
  · obtain ⟨n, h1, _⟩ := key i j q h
    exact hD.2 n q h1
  · obtain ⟨n, h1, _⟩ := key i j q h
    exact ⟨n, h1⟩
theorem jS_start {ks : List (Nat × Nat)} {wx wm : va_W} (hP : va_P D vwCl (wx ++ wm) H) (hD : va_D A (wx ++ wm)) (hk : kAll (cF cA zc) ks wx) (ho : ∀ i j, (i, j) ∉ ks → cF cA zc i j = none) (hm : wm = rW qm cI cJ cZ ad zr) : jS D cA qm cI cJ cZ ad A zc zr H := by
  have hl : ∀ (k : Nat) (q : Nat × va_E), wx[k]? = some q → (wx ++ wm)[k]? = some q := fun k q h => by
    rw [List.getElem?_append_left (List.getElem?_eq_some_iff.mp h).1]; exact h
  have hr : ∀ (k : Nat) (q : Nat × va_E), wm[k]? = some q → (wx ++ wm)[wx.length + k]? = some q := fun k q h => by
    rw [List.getElem?_append_right (Nat.le_add_right _ _), Nat.add_sub_cancel_left]; exact h
  have hPx : va_P D vwCl wx H := fun k q h => hP k q (hl k q h)
  have hDx : va_D A wx := ⟨fun i j p q h1 h2 e => hD.1 i j p q (hl i p h1) (hl j q h2) e, fun k q h => hD.2 k q (hl k q h)⟩
  obtain ⟨k1, k2, k3⟩ := kStart hPx hDx hk ho
  subst hm
  refine ⟨k1, k2, fun k q h => hP _ q (hr k q h), ⟨fun i j p q h1 h2 e => by have := hD.1 _ _ p q (hr i p h1) (hr j q h2) e; omega, fun k q h => hD.2 _ q (hr k q h)⟩, fun k q hq i j x hx e => ?_⟩
  obtain ⟨n, hn⟩ := k3 i j x hx
  have h1 := hD.1 _ _ x q (hl n x hn) (hr k q hq) e
  have h2 := (List.getElem?_eq_some_iff.mp hn).1
  omega
end JS
/-! the two at the start -/
def z0C (x : Nat → Nat → Nat) : CS := (fun k => if k = 0 then 1000 else 0, fun _ => 0, fun k _ => if k = 1 then 1000 else if k = 8 then (-1) else 0, fun _ _ => 0, fun _ _ => 0, fun _ _ => 0, x)
theorem invC_0 (x : Nat → Nat → Nat) : invC (z0C x) :=
  ⟨⟨Nat.zero_le _, Nat.zero_le _, Nat.zero_le _, Nat.zero_le _, Nat.le_refl _, Nat.le_refl _⟩, fun p hp => absurd hp (Nat.not_lt_zero p), fun p hp => absurd hp (Nat.not_lt_zero p), fun p hp => absurd hp (Nat.not_lt_zero p), fun p hp => absurd hp (Nat.not_lt_zero p), fun k _ => (by decide : 0 ≤ (0 : Int32).toInt ∧ (0 : Int32).toInt ≤ 48)⟩
def z0R : RS2 := (fun k => if k = 1 then 1000 else if k = 20 then (-9) else 0, fun _ => 0, fun k _ => if k = 3 then 1000 else if k = 7 then (-1) else 0, fun _ _ => 0)
theorem invR_0 : invR z0R :=
  ⟨⟨Nat.zero_le _, Nat.zero_le _, Nat.zero_le _, Nat.zero_le _⟩, (by decide : 0 ≤ (1000 : Int32).toInt ∧ (1000 : Int32).toInt ≤ 1000), fun j _ => (by decide : 0 ≤ (0 : Int32).toInt ∧ (0 : Int32).toInt ≤ 1000 ∧ 0 ≤ (1000 : Int32).toInt ∧ (1000 : Int32).toInt ≤ 1000), fun k _ => (by decide : -1 ≤ (-1 : Int32).toInt ∧ (-1 : Int32).toInt ≤ 48), Or.inl rfl, fun p hp => absurd hp (Nat.not_lt_zero p), fun p hp => absurd hp (Nat.not_lt_zero p)⟩
def ax12 (a0 a1 a2 a3 a4 a5 a6 a7 a8 a9 a10 a11 : Nat) : Nat → Nat := fun j => match j with
  | 0 => a0 | 1 => a1 | 2 => a2 | 3 => a3 | 4 => a4 | 5 => a5 | 6 => a6 | 7 => a7 | 8 => a8 | 9 => a9 | 10 => a10 | _ => a11
def x0C (a f g : Nat → Nat) : Nat → Nat → Nat := fun k => match k with
  | 0 => a | 6 => f | 7 => g | _ => fun _ => 0
def cA6 (c0 c1 c2 c3 c4 c5 : ClassId) : Nat → ClassId := fun k => match k with
  | 0 => c0 | 1 => c1 | 2 => c2 | 3 => c3 | 4 => c4 | _ => c5
theorem rfN_0 : (fun _ => none : Nat → Option Nat) = rfN 0 (fun _ => 0) := by
  funext j; simp [rfN]
def ks0 : List (Nat × Nat) := [(0, 0), (0, 1), (0, 2), (0, 3), (0, 4), (0, 5), (0, 6), (0, 7), (0, 8), (0, 9), (0, 10), (0, 11), (6, 0), (6, 1), (6, 2), (6, 3), (7, 0), (7, 1), (7, 2), (7, 3)]
theorem ks0_out {cA : Nat → ClassId} {x : Nat → Nat → Nat} : ∀ i j, (i, j) ∉ ks0 → cF cA (z0C x) i j = none := by
  intro i j h
  rcases i with _ | _ | _ | _ | _ | _ | _ | _ | i
  · rcases j with _ | _ | _ | _ | _ | _ | _ | _ | _ | _ | _ | _ | j
    all_goals first | exact absurd (by decide) h | rfl
  · exact (if_neg (Nat.not_lt_zero j) : (if j < 0 then some (cPi (z0C x) j) else none) = none)
  · exact (if_neg (Nat.not_lt_zero j) : (if j < 0 then some (cGa (z0C x) j) else none) = none)
  · exact (if_neg (Nat.not_lt_zero j) : (if j < 0 then some (cTa (z0C x) j) else none) = none)
  · exact (if_neg (Nat.not_lt_zero j) : (if j < 0 then some (cPa (z0C x) j) else none) = none)
  · exact (if_neg (fun q => q.2 rfl) : (if j = 0 ∧ ¬ (0 : Nat) = 0 then some (cAu (z0C x)) else none) = none)
  · rcases j with _ | _ | _ | _ | j
    all_goals first | exact absurd (by decide) h | exact (if_neg (by omega) : (if j + 1 + 1 + 1 + 1 < 4 then some (cSh (z0C x) (j + 1 + 1 + 1 + 1)) else none) = none)
  · rcases j with _ | _ | _ | _ | j
    all_goals first | exact absurd (by decide) h | exact (if_neg (by omega) : (if j + 1 + 1 + 1 + 1 < 4 then some (cSc cA (z0C x) (j + 1 + 1 + 1 + 1)) else none) = none)
  · rfl
theorem nI_p (a b : Nat) : nI a + nI b = nI (a + b) := nI_add a b
theorem law_gt {L i : Nat} (hL : L ≤ 3072) (hi : i ≤ 4000) : nI L - 6 < nI i ↔ L < i + 6 := by
  by_cases h : L < 6
  · have h0 : ∀ n, n < 6 → nI n - 6 < nI 0 := by decide
    have h1 : nI L - 6 < nI 0 := h0 L h
    refine ⟨fun _ => by omega, fun _ => ?_⟩
    rcases Nat.eq_zero_or_pos i with e | e
    · rw [e]; exact h1
    · exact Int32.lt_trans h1 (nI_lt e (by omega))
  · have e : nI L - 6 = nI (L - 6) := pk_sub (b := 6) (by omega)
    rw [e]
    refine ⟨fun q => ?_, fun q => nI_lt (by omega) (by omega)⟩
    exact Nat.lt_of_not_le fun z => absurd q (Int32.not_lt.mpr (nI_le (by omega) (by omega)))
theorem tb_out31 {w : Int32} (h0 : ¬ w = 0) (h1 : ¬ w = 1) (h2 : ¬ w = 2) (h3 : ¬ w = 3) (h4 : ¬ w = 4) (h5 : ¬ w = 5) (h6 : ¬ w = 6) (h7 : ¬ w = 7) (h8 : ¬ w = 8) (h9 : ¬ w = 9) (h10 : ¬ w = 10) (h11 : ¬ w = 11) (h12 : ¬ w = 12) (h13 : ¬ w = 13) (h14 : ¬ w = 14) (h15 : ¬ w = 15) (h16 : ¬ w = 16) (h17 : ¬ w = 17) (h18 : ¬ w = 18) (h19 : ¬ w = 19) (h20 : ¬ w = 20) (h21 : ¬ w = 21) (h22 : ¬ w = 22) (h23 : ¬ w = 23) (h24 : ¬ w = 24) (h25 : ¬ w = 25) (h26 : ¬ w = 26) (h27 : ¬ w = 27) (h28 : ¬ w = 28) (h29 : ¬ w = 29) (h30 : ¬ w = 30) : w.toInt < 0 ∨ 30 < w.toInt := by
  have e0 : ¬ w.toInt = 0 := fun q => h0 ((fa_eq _ _).mpr q)
  have e1 : ¬ w.toInt = 1 := fun q => h1 ((fa_eq _ _).mpr q)
  have e2 : ¬ w.toInt = 2 := fun q => h2 ((fa_eq _ _).mpr q)
  have e3 : ¬ w.toInt = 3 := fun q => h3 ((fa_eq _ _).mpr q)
  have e4 : ¬ w.toInt = 4 := fun q => h4 ((fa_eq _ _).mpr q)
  have e5 : ¬ w.toInt = 5 := fun q => h5 ((fa_eq _ _).mpr q)
  have e6 : ¬ w.toInt = 6 := fun q => h6 ((fa_eq _ _).mpr q)
  have e7 : ¬ w.toInt = 7 := fun q => h7 ((fa_eq _ _).mpr q)
  have e8 : ¬ w.toInt = 8 := fun q => h8 ((fa_eq _ _).mpr q)
  have e9 : ¬ w.toInt = 9 := fun q => h9 ((fa_eq _ _).mpr q)
  have e10 : ¬ w.toInt = 10 := fun q => h10 ((fa_eq _ _).mpr q)
  have e11 : ¬ w.toInt = 11 := fun q => h11 ((fa_eq _ _).mpr q)
  have e12 : ¬ w.toInt = 12 := fun q => h12 ((fa_eq _ _).mpr q)
  have e13 : ¬ w.toInt = 13 := fun q => h13 ((fa_eq _ _).mpr q)
  have e14 : ¬ w.toInt = 14 := fun q => h14 ((fa_eq _ _).mpr q)
  have e15 : ¬ w.toInt = 15 := fun q => h15 ((fa_eq _ _).mpr q)
  have e16 : ¬ w.toInt = 16 := fun q => h16 ((fa_eq _ _).mpr q)
  have e17 : ¬ w.toInt = 17 := fun q => h17 ((fa_eq _ _).mpr q)
  have e18 : ¬ w.toInt = 18 := fun q => h18 ((fa_eq _ _).mpr q)
  have e19 : ¬ w.toInt = 19 := fun q => h19 ((fa_eq _ _).mpr q)
  have e20 : ¬ w.toInt = 20 := fun q => h20 ((fa_eq _ _).mpr q)
  have e21 : ¬ w.toInt = 21 := fun q => h21 ((fa_eq _ _).mpr q)
  have e22 : ¬ w.toInt = 22 := fun q => h22 ((fa_eq _ _).mpr q)
  have e23 : ¬ w.toInt = 23 := fun q => h23 ((fa_eq _ _).mpr q)
  have e24 : ¬ w.toInt = 24 := fun q => h24 ((fa_eq _ _).mpr q)
  have e25 : ¬ w.toInt = 25 := fun q => h25 ((fa_eq _ _).mpr q)
  have e26 : ¬ w.toInt = 26 := fun q => h26 ((fa_eq _ _).mpr q)
  have e27 : ¬ w.toInt = 27 := fun q => h27 ((fa_eq _ _).mpr q)
  have e28 : ¬ w.toInt = 28 := fun q => h28 ((fa_eq _ _).mpr q)
  have e29 : ¬ w.toInt = 29 := fun q => h29 ((fa_eq _ _).mpr q)
  have e30 : ¬ w.toInt = 30 := fun q => h30 ((fa_eq _ _).mpr q)
  omega
