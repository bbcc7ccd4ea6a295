/-! the class's sweeps are the sweeps over whole numbers -/
theorem tcL_I {s j : Nat} {v : Int32} {a : Nat → Int32} : (tcL s v a j).toInt = if j = s then max (a s).toInt v.toInt else (a j).toInt := by
  by_cases h : j = s
  · subst h
    rw [tcL_at, if_pos rfl]
    by_cases q : a j < v
    · rw [if_pos q]; have := (fa_lt _ _).mp q; omega
    · rw [if_neg q]; have h9 : ¬ (a j).toInt < v.toInt := fun z => q ((fa_lt _ _).mpr z); omega
  · rw [tcL_ne h, if_neg h]
theorem tcH_I {s j : Nat} {v : Int32} {a : Nat → Int32} : (tcH s v a j).toInt = if j = s then min (a s).toInt v.toInt else (a j).toInt := by
  by_cases h : j = s
  · subst h
    rw [tcH_at, if_pos rfl]
    by_cases q : v < a j
    · rw [if_pos q]; have := (fa_lt _ _).mp q; omega
    · rw [if_neg q]; have h9 : ¬ v.toInt < (a j).toInt := fun z => q ((fa_lt _ _).mpr z); omega
  · rw [tcH_ne h, if_neg h]
/-- one step with at most two neighbours -/
theorem two_L {d : Int32} {i x y : Nat} {P Q : Prop} [Decidable P] [Decidable Q] {a : Nat → Int32} {A : Nat → Int} (hd : 0 ≤ d.toInt ∧ d.toInt ≤ 1000) (hi : i < 48) (hx : P → x < 48 ∧ x ≠ i) (hy : Q → y < 48 ∧ y ≠ i) (hr : rngL a) (hA : ∀ j, j < 48 → (a j).toInt = A j) :
    rngL (if Q then tcL i ((if P then tcL i (a x - d) a else a) y - d) (if P then tcL i (a x - d) a else a) else (if P then tcL i (a x - d) a else a)) ∧ ∀ j, j < 48 → ((if Q then tcL i ((if P then tcL i (a x - d) a else a) y - d) (if P then tcL i (a x - d) a else a) else (if P then tcL i (a x - d) a else a)) j).toInt = u1 A i (max (max (A i) (if P then A x - d.toInt else A i)) (if Q then A y - d.toInt else A i)) j := by
  have key : ∀ j, j < 48 → ((if Q then tcL i ((if P then tcL i (a x - d) a else a) y - d) (if P then tcL i (a x - d) a else a) else (if P then tcL i (a x - d) a else a)) j).toInt = u1 A i (max (max (A i) (if P then A x - d.toInt else A i)) (if Q then A y - d.toInt else A i)) j := by
    intro j hj
    have ai := hA i hi
    by_cases hP : P <;> by_cases hQ : Q
    · have ax := hA x (hx hP).1; have ay := hA y (hy hQ).1
      have ex := sub_small (hr x (hx hP).1) hd
      have ey := sub_small (hr y (hy hQ).1) hd
      rw [if_pos hP, if_pos hQ, if_pos hP, if_pos hQ]
      by_cases e : j = i
      · subst e; rw [u1_s, tcL_I, if_pos rfl, tcL_ne (hy hQ).2, tcL_I, if_pos rfl, ex, ey, ai, ax, ay]
      · rw [u1_n e, tcL_I, if_neg e, tcL_I, if_neg e]; exact hA j hj
    · have ax := hA x (hx hP).1
      have ex := sub_small (hr x (hx hP).1) hd
      rw [if_pos hP, if_neg hQ, if_pos hP, if_neg hQ]
      by_cases e : j = i
      · subst e; rw [u1_s, tcL_I, if_pos rfl, ex, ai, ax]; omega
      · rw [u1_n e, tcL_I, if_neg e]; exact hA j hj
    · have ay := hA y (hy hQ).1
      have ey := sub_small (hr y (hy hQ).1) hd
      rw [if_neg hP, if_pos hQ, if_neg hP, if_pos hQ]
      by_cases e : j = i
      · subst e; rw [u1_s, tcL_I, if_pos rfl, ey, ai, ay]; omega
      · rw [u1_n e, tcL_I, if_neg e]; exact hA j hj
    · rw [if_neg hP, if_neg hQ, if_neg hP, if_neg hQ]
      by_cases e : j = i
      · subst e; rw [u1_s, ai]; omega
      · rw [u1_n e]; exact hA j hj
  refine ⟨fun j hj => ?_, key⟩
  rw [key j hj]
  have ai := hA i hi; have ri := hr i hi
  by_cases e : j = i
  · subst e
    rw [u1_s]
    by_cases hP : P <;> by_cases hQ : Q
    · rw [if_pos hP, if_pos hQ]
      have ax := hA x (hx hP).1; have ay := hA y (hy hQ).1; have rx := hr x (hx hP).1; have ry := hr y (hy hQ).1; omega
    · rw [if_pos hP, if_neg hQ]
      have ax := hA x (hx hP).1; have rx := hr x (hx hP).1; omega
    · rw [if_neg hP, if_pos hQ]
      have ay := hA y (hy hQ).1; have ry := hr y (hy hQ).1; omega
    · rw [if_neg hP, if_neg hQ]; omega
  · rw [u1_n e, ← hA j hj]; exact hr j hj
theorem two_H {d : Int32} {i x y : Nat} {P Q : Prop} [Decidable P] [Decidable Q] {a : Nat → Int32} {A : Nat → Int} (hd : 0 ≤ d.toInt ∧ d.toInt ≤ 1000) (hi : i < 48) (hx : P → x < 48 ∧ x ≠ i) (hy : Q → y < 48 ∧ y ≠ i) (hr : rngL a) (hA : ∀ j, j < 48 → (a j).toInt = - A j) :
    rngL (if Q then tcH i ((if P then tcH i (a x + d) a else a) y + d) (if P then tcH i (a x + d) a else a) else (if P then tcH i (a x + d) a else a)) ∧ ∀ j, j < 48 → ((if Q then tcH i ((if P then tcH i (a x + d) a else a) y + d) (if P then tcH i (a x + d) a else a) else (if P then tcH i (a x + d) a else a)) j).toInt = - u1 A i (max (max (A i) (if P then A x - d.toInt else A i)) (if Q then A y - d.toInt else A i)) j := by
  have key : ∀ j, j < 48 → ((if Q then tcH i ((if P then tcH i (a x + d) a else a) y + d) (if P then tcH i (a x + d) a else a) else (if P then tcH i (a x + d) a else a)) j).toInt = - u1 A i (max (max (A i) (if P then A x - d.toInt else A i)) (if Q then A y - d.toInt else A i)) j := by
    intro j hj
    have ai := hA i hi
    by_cases hP : P <;> by_cases hQ : Q
    · have ax := hA x (hx hP).1; have ay := hA y (hy hQ).1
      have ex := add_small (hr x (hx hP).1) hd
      have ey := add_small (hr y (hy hQ).1) hd
      rw [if_pos hP, if_pos hQ, if_pos hP, if_pos hQ]
      by_cases e : j = i
      · subst e; rw [u1_s, tcH_I, if_pos rfl, tcH_ne (hy hQ).2, tcH_I, if_pos rfl, ex, ey, ai, ax, ay]; omega
      · rw [u1_n e, tcH_I, if_neg e, tcH_I, if_neg e]; exact hA j hj
    · have ax := hA x (hx hP).1
      have ex := add_small (hr x (hx hP).1) hd
      rw [if_pos hP, if_neg hQ, if_pos hP, if_neg hQ]
      by_cases e : j = i
      · subst e; rw [u1_s, tcH_I, if_pos rfl, ex, ai, ax]; omega
      · rw [u1_n e, tcH_I, if_neg e]; exact hA j hj
    · have ay := hA y (hy hQ).1
      have ey := add_small (hr y (hy hQ).1) hd
      rw [if_neg hP, if_pos hQ, if_neg hP, if_pos hQ]
      by_cases e : j = i
      · subst e; rw [u1_s, tcH_I, if_pos rfl, ey, ai, ay]; omega
      · rw [u1_n e, tcH_I, if_neg e]; exact hA j hj
    · rw [if_neg hP, if_neg hQ, if_neg hP, if_neg hQ]
      by_cases e : j = i
      · subst e; rw [u1_s, ai]; omega
      · rw [u1_n e]; exact hA j hj
  refine ⟨fun j hj => ?_, key⟩
  rw [key j hj]
  have ai := hA i hi; have ri := hr i hi
  by_cases e : j = i
  · subst e
    rw [u1_s]
    by_cases hP : P <;> by_cases hQ : Q
    · rw [if_pos hP, if_pos hQ]
      have ax := hA x (hx hP).1; have ay := hA y (hy hQ).1; have rx := hr x (hx hP).1; have ry := hr y (hy hQ).1; omega
    · rw [if_pos hP, if_neg hQ]
      have ax := hA x (hx hP).1; have rx := hr x (hx hP).1; omega
    · rw [if_neg hP, if_pos hQ]
      have ay := hA y (hy hQ).1; have ry := hr y (hy hQ).1; omega
    · rw [if_neg hP, if_neg hQ]; omega
  · rw [u1_n e, ← hA j hj]; exact hr j hj
theorem swL_I {d : Int32} {g : Nat → Int32} {G : Nat → Int} (hd : 0 ≤ d.toInt ∧ d.toInt ≤ 1000) (hr : rngL g) (hG : ∀ j, j < 48 → (g j).toInt = G j) : ∀ n, n ≤ 48 → rngL (swL d g n) ∧ ∀ j, j < 48 → (swL d g n j).toInt = wS d.toInt G n j
  | 0, _ => ⟨hr, hG⟩
  | n + 1, hn => by
    obtain ⟨h1, h2⟩ := swL_I hd hr hG n (by omega)
    exact two_L (P := 0 < n % 8) (Q := 8 ≤ n) (x := n - 1) (y := n - 8) hd (by omega) (fun _ => by omega) (fun _ => by omega) h1 h2
theorem swH_I {d : Int32} {g : Nat → Int32} {G : Nat → Int} (hd : 0 ≤ d.toInt ∧ d.toInt ≤ 1000) (hr : rngL g) (hG : ∀ j, j < 48 → (g j).toInt = - G j) : ∀ n, n ≤ 48 → rngL (swH d g n) ∧ ∀ j, j < 48 → (swH d g n j).toInt = - wS d.toInt G n j
  | 0, _ => ⟨hr, hG⟩
  | n + 1, hn => by
    obtain ⟨h1, h2⟩ := swH_I hd hr hG n (by omega)
    exact two_H (P := 0 < n % 8) (Q := 8 ≤ n) (x := n - 1) (y := n - 8) hd (by omega) (fun _ => by omega) (fun _ => by omega) h1 h2
theorem dnL_I {d : Int32} {g : Nat → Int32} {G : Nat → Int} (hd : 0 ≤ d.toInt ∧ d.toInt ≤ 1000) (hr : rngL g) (hG : ∀ j, j < 48 → (g j).toInt = G j) : ∀ n, n ≤ 48 → rngL (dnL d g n) ∧ ∀ j, j < 48 → (dnL d g n j).toInt = wD d.toInt G n j
  | 0, _ => ⟨hr, hG⟩
  | n + 1, hn => by
    obtain ⟨h1, h2⟩ := dnL_I hd hr hG n (by omega)
    exact two_L (P := (47 - n) % 8 < 7) (Q := 47 - n < 40) (x := 47 - n + 1) (y := 47 - n + 8) hd (by omega) (fun _ => by omega) (fun _ => by omega) h1 h2
theorem dnH_I {d : Int32} {g : Nat → Int32} {G : Nat → Int} (hd : 0 ≤ d.toInt ∧ d.toInt ≤ 1000) (hr : rngL g) (hG : ∀ j, j < 48 → (g j).toInt = - G j) : ∀ n, n ≤ 48 → rngL (dnH d g n) ∧ ∀ j, j < 48 → (dnH d g n j).toInt = - wD d.toInt G n j
  | 0, _ => ⟨hr, hG⟩
  | n + 1, hn => by
    obtain ⟨h1, h2⟩ := dnH_I hd hr hG n (by omega)
    exact two_H (P := (47 - n) % 8 < 7) (Q := 47 - n < 40) (x := 47 - n + 1) (y := 47 - n + 8) hd (by omega) (fun _ => by omega) (fun _ => by omega) h1 h2
def clo (d : Int32) (a b : Nat → Int32) : Prop := ∀ s n, s < 48 → n < 48 → nbr s n → (a n).toInt - d.toInt ≤ (a s).toInt ∧ (b s).toInt ≤ (b n).toInt + d.toInt
/-- the class's two sweeps: in range, least above the start, closed -/
theorem nar_C {d : Int32} {g h : Nat → Int32} (hd : 0 ≤ d.toInt ∧ d.toInt ≤ 1000) (hg : rngL g) (hh : rngL h) : (rngL (dnL d (swL d g 48) 48) ∧ rngL (dnH d (swH d h 48) 48)) ∧ minL d g (dnL d (swL d g 48) 48) ∧ maxH d h (dnH d (swH d h 48) 48) ∧ clo d (dnL d (swL d g 48) 48) (dnH d (swH d h 48) 48) := by
  obtain ⟨s1, s2⟩ := swL_I (G := fun j => (g j).toInt) hd hg (fun _ _ => rfl) 48 (Nat.le_refl _)
  obtain ⟨t1, t2⟩ := dnL_I hd s1 s2 48 (Nat.le_refl _)
  obtain ⟨x1, x2⟩ := swH_I (G := fun j => - (h j).toInt) hd hh (fun _ _ => by omega) 48 (Nat.le_refl _)
  obtain ⟨y1, y2⟩ := dnH_I hd x1 x2 48 (Nat.le_refl _)
  have lo : ∀ (G : Nat → Int) (j : Nat), j < 48 → G j ≤ wD d.toInt (wS d.toInt G 48) 48 j := fun G j hj => by
    have h1 := (wS_low (d := d.toInt) (g := G) hj).1
    have h2 : wS d.toInt G 48 j ≤ wD d.toInt (wS d.toInt G 48) 48 j := by rw [wD_48 hj]; omega
    omega
  refine ⟨⟨t1, y1⟩, ⟨fun j hj => ?_, fun c hc hgc j hj => ?_⟩, ⟨fun j hj => ?_, fun c hc hgc j hj => ?_⟩, fun s n hs hn hb => ?_⟩
  · rw [t2 j hj]; exact lo (fun j => (g j).toInt) j hj
  · rw [t2 j hj]; exact wD_min hc (wS_min hc hgc 48 (Nat.le_refl _)) 48 (Nat.le_refl _) j hj
  · rw [y2 j hj]; have := lo (fun j => - (h j).toInt) j hj; omega
  · rw [y2 j hj]
    have hc' : ∀ s n, s < 48 → n < 48 → nbr s n → (fun j => - c j) n - d.toInt ≤ (fun j => - c j) s := fun s n hs hn hb => by
      have := hc s n hs hn hb
      show - c n - d.toInt ≤ - c s
      omega
    have := wD_min hc' (wS_min (g := fun j => - (h j).toInt) hc' (fun j hj => by have := hgc j hj; show - (h j).toInt ≤ - c j; omega) 48 (Nat.le_refl _)) 48 (Nat.le_refl _) j hj
    have this : wD d.toInt (wS d.toInt (fun j => - (h j).toInt) 48) 48 j ≤ - c j := this
    omega
  · rw [t2 s hs, t2 n hn, y2 s hs, y2 n hn]
    have h1 := w_closed (g := fun j => (g j).toInt) hd.1 s n hs hn hb
    have h2 := w_closed (g := fun j => - (h j).toInt) hd.1 s n hs hn hb
    omega
/-- least closed arrays are one -/
theorem min_one {d : Int32} {g g' a b h h' x y : Nat → Int32} (e : ∀ j, j < 48 → g j = g' j) (e' : ∀ j, j < 48 → h j = h' j) (ha : minL d g a) (hb : minL d g' b) (hx : maxH d h x) (hy : maxH d h' y) (ca : clo d a x) (cb : clo d b y) : (∀ j, j < 48 → a j = b j) ∧ ∀ j, j < 48 → x j = y j := by
  refine ⟨fun j hj => (fa_eq _ _).mpr (Int.le_antisymm ?_ ?_), fun j hj => (fa_eq _ _).mpr (Int.le_antisymm ?_ ?_)⟩
  · exact ha.2 (fun j => (b j).toInt) (fun s n hs hn hb => (cb s n hs hn hb).1) (fun j hj => by rw [e j hj]; exact hb.1 j hj) j hj
  · exact hb.2 (fun j => (a j).toInt) (fun s n hs hn hb => (ca s n hs hn hb).1) (fun j hj => by rw [← e j hj]; exact ha.1 j hj) j hj
  · exact hy.2 (fun j => (x j).toInt) (fun s n hs hn hb => (ca s n hs hn hb).2) (fun j hj => by rw [← e' j hj]; exact hx.1 j hj) j hj
  · exact hx.2 (fun j => (y j).toInt) (fun s n hs hn hb => (cb s n hs hn hb).2) (fun j hj => by rw [e' j hj]; exact hy.1 j hj) j hj
/-- a crossing of arrays below the least is one of the least -/
theorem min_cross {d : Int32} {g g' a b h h' x y : Nat → Int32} (e : ∀ j, j < 48 → g j = g' j) (e' : ∀ j, j < 48 → h j = h' j) (ha : minL d g a) (hb : minL d g' b) (hx : maxH d h x) (hy : maxH d h' y) (ca : clo d a x) (hc : ∃ j, j < 48 ∧ y j < b j) : ∃ j, j < 48 ∧ x j < a j := by
  obtain ⟨j, hj, hjc⟩ := hc
  refine ⟨j, hj, (fa_lt _ _).mpr ?_⟩
  have h1 := hb.2 (fun j => (a j).toInt) (fun s n hs hn hb => (ca s n hs hn hb).1) (fun j hj => by rw [← e j hj]; exact ha.1 j hj) j hj
  have h2 := hy.2 (fun j => (x j).toInt) (fun s n hs hn hb => (ca s n hs hn hb).2) (fun j hj => by rw [← e' j hj]; exact hx.1 j hj) j hj
  have h3 := (fa_lt _ _).mp hjc
  have h1 : (b j).toInt ≤ (a j).toInt := h1
  have h2 : (x j).toInt ≤ (y j).toInt := h2
  omega
