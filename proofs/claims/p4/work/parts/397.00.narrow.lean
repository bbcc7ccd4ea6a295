/-! narrowing: what a step of the reference keeps -/
theorem sub_small {a d : Int32} (h : 0 ≤ a.toInt ∧ a.toInt ≤ 1000) (h2 : 0 ≤ d.toInt ∧ d.toInt ≤ 1000) : (a - d).toInt = a.toInt - d.toInt := by
  rw [Int32.toInt_sub]
  apply Int.bmod_eq_of_le <;> omega
theorem add_small {a d : Int32} (h : 0 ≤ a.toInt ∧ a.toInt ≤ 1000) (h2 : 0 ≤ d.toInt ∧ d.toInt ≤ 1000) : (a + d).toInt = a.toInt + d.toInt := by
  rw [Int32.toInt_add]
  apply Int.bmod_eq_of_le <;> omega
def nbr (s n : Nat) : Prop := (s % 8 ≠ 0 ∧ n + 1 = s) ∨ (s % 8 ≠ 7 ∧ n = s + 1) ∨ n + 8 = s ∨ n = s + 8
def rngL (a : Nat → Int32) : Prop := ∀ j, j < 48 → 0 ≤ (a j).toInt ∧ (a j).toInt ≤ 1000
def minL (d : Int32) (g a : Nat → Int32) : Prop := (∀ j, j < 48 → (g j).toInt ≤ (a j).toInt) ∧ ∀ c : Nat → Int, (∀ s n, s < 48 → n < 48 → nbr s n → c n - d.toInt ≤ c s) → (∀ j, j < 48 → (g j).toInt ≤ c j) → ∀ j, j < 48 → (a j).toInt ≤ c j
def maxH (d : Int32) (g b : Nat → Int32) : Prop := (∀ j, j < 48 → (b j).toInt ≤ (g j).toInt) ∧ ∀ c : Nat → Int, (∀ s n, s < 48 → n < 48 → nbr s n → c s ≤ c n + d.toInt) → (∀ j, j < 48 → c j ≤ (g j).toInt) → ∀ j, j < 48 → c j ≤ (b j).toInt
theorem minL_rf {d : Int32} {g : Nat → Int32} : minL d g g := ⟨fun _ _ => Int.le_refl _, fun _ _ h => h⟩
theorem maxH_rf {d : Int32} {g : Nat → Int32} : maxH d g g := ⟨fun _ _ => Int.le_refl _, fun _ _ h => h⟩
def msum (a b : Nat → Int32) : Nat → Nat
  | 0 => 0
  | n + 1 => msum a b n + ((1000 - (a n).toInt).toNat + (b n).toInt.toNat)
theorem msum_le {a b a' b' : Nat → Int32} : ∀ n, (∀ j, j < n → (a j).toInt ≤ (a' j).toInt ∧ (b' j).toInt ≤ (b j).toInt) → msum a' b' n ≤ msum a b n
  | 0, _ => Nat.le_refl _
  | n + 1, h => by
    have h1 := msum_le n (fun j hj => h j (by omega))
    have h2 := h n (by omega)
    simp only [msum]
    omega
theorem msum_lt {a b a' b' : Nat → Int32} : ∀ n, (∀ j, j < n → (a j).toInt ≤ (a' j).toInt ∧ (b' j).toInt ≤ (b j).toInt) → (∃ s, s < n ∧ (((a s).toInt < (a' s).toInt ∧ (a' s).toInt ≤ 1000) ∨ (0 ≤ (b' s).toInt ∧ (b' s).toInt < (b s).toInt))) → msum a' b' n < msum a b n
  | 0, _, ⟨s, hs, _⟩ => absurd hs (Nat.not_lt_zero s)
  | n + 1, h, ⟨s, hs, hx⟩ => by
    have h1 := msum_le n (fun j hj => h j (by omega))
    have h2 := h n (by omega)
    simp only [msum]
    by_cases hsn : s = n
    · subst hsn
      rcases hx with hx | hx <;> omega
    · have h3 := msum_lt n (fun j hj => h j (by omega)) ⟨s, by omega, hx⟩
      omega
theorem tcL_at {s : Nat} {v : Int32} {a : Nat → Int32} : tcL s v a s = if a s < v then v else a s := by unfold tcL; exact pk_us
theorem tcL_ne {s j : Nat} {v : Int32} {a : Nat → Int32} (h : j ≠ s) : tcL s v a j = a j := by unfold tcL; exact pk_un h
theorem tcH_at {s : Nat} {v : Int32} {a : Nat → Int32} : tcH s v a s = if v < a s then v else a s := by unfold tcH; exact pk_us
theorem tcH_ne {s j : Nat} {v : Int32} {a : Nat → Int32} (h : j ≠ s) : tcH s v a j = a j := by unfold tcH; exact pk_un h
theorem tcL_keep {d : Int32} {g a : Nat → Int32} {s n : Nat} (hd : 0 ≤ d.toInt ∧ d.toInt ≤ 1000) (hr : rngL a) (hm : minL d g a) (hs : s < 48) (hn : n < 48) (hb : nbr s n) : rngL (tcL s (a n - d) a) ∧ minL d g (tcL s (a n - d) a) ∧ ∀ j, (a j).toInt ≤ (tcL s (a n - d) a j).toInt := by
  have e := sub_small (hr n hn) hd
  have r1 := hr n hn
  have r2 := hr s hs
  have up : ∀ j, (a j).toInt ≤ (tcL s (a n - d) a j).toInt := by
    intro j
    by_cases hj : j = s
    · subst hj
      rw [tcL_at]
      by_cases h : a j < a n - d
      · rw [if_pos h]; have := (fa_lt _ _).mp h; omega
      · rw [if_neg h]; exact Int.le_refl _
    · rw [tcL_ne hj]; exact Int.le_refl _
  refine ⟨fun j hj => ?_, ⟨fun j hj => Int.le_trans (hm.1 j hj) (up j), fun c hc hg j hj => ?_⟩, up⟩
  · by_cases hjs : j = s
    · subst hjs
      rw [tcL_at]
      by_cases h : a j < a n - d
      · rw [if_pos h]; have := (fa_lt _ _).mp h; omega
      · rw [if_neg h]; exact r2
    · rw [tcL_ne hjs]; exact hr j hj
  · have h1 := hm.2 c hc hg
    by_cases hjs : j = s
    · subst hjs
      rw [tcL_at]
      by_cases h : a j < a n - d
      · rw [if_pos h]; have := hc j n hj hn hb; have := h1 n hn; omega
      · rw [if_neg h]; exact h1 j hj
    · rw [tcL_ne hjs]; exact h1 j hj
theorem tcH_keep {d : Int32} {g a : Nat → Int32} {s n : Nat} (hd : 0 ≤ d.toInt ∧ d.toInt ≤ 1000) (hr : rngL a) (hm : maxH d g a) (hs : s < 48) (hn : n < 48) (hb : nbr s n) : rngL (tcH s (a n + d) a) ∧ maxH d g (tcH s (a n + d) a) ∧ ∀ j, (tcH s (a n + d) a j).toInt ≤ (a j).toInt := by
  have e := add_small (hr n hn) hd
  have r1 := hr n hn
  have r2 := hr s hs
  have dn : ∀ j, (tcH s (a n + d) a j).toInt ≤ (a j).toInt := by
    intro j
    by_cases hj : j = s
    · subst hj
      rw [tcH_at]
      by_cases h : a n + d < a j
      · rw [if_pos h]; have := (fa_lt _ _).mp h; omega
      · rw [if_neg h]; exact Int.le_refl _
    · rw [tcH_ne hj]; exact Int.le_refl _
  refine ⟨fun j hj => ?_, ⟨fun j hj => Int.le_trans (dn j) (hm.1 j hj), fun c hc hg j hj => ?_⟩, dn⟩
  · by_cases hjs : j = s
    · subst hjs
      rw [tcH_at]
      by_cases h : a n + d < a j
      · rw [if_pos h]; have := (fa_lt _ _).mp h; omega
      · rw [if_neg h]; exact r2
    · rw [tcH_ne hjs]; exact hr j hj
  · have h1 := hm.2 c hc hg
    by_cases hjs : j = s
    · subst hjs
      rw [tcH_at]
      by_cases h : a n + d < a j
      · rw [if_pos h]; have := hc j n hj hn hb; have := h1 n hn; omega
      · rw [if_neg h]; exact h1 j hj
    · rw [tcH_ne hjs]; exact h1 j hj
/-- the state within a round at square i: P: which neighbours of i have been met -/
def jst (d : Int32) (gl gh al ah : Nat → Int32) (i : Nat) (P : Nat → Prop) (bl bh : Nat → Int32) (cq : Int32) : Prop := (rngL bl ∧ rngL bh) ∧ (minL d gl bl ∧ maxH d gh bh) ∧ ((cq = 0 ∧ bl = al ∧ bh = ah ∧ (∀ s n, s < i → n < 48 → nbr s n → (al n).toInt - d.toInt ≤ (al s).toInt ∧ (ah s).toInt ≤ (ah n).toInt + d.toInt) ∧ ∀ n, n < 48 → P n → (al n).toInt - d.toInt ≤ (al i).toInt ∧ (ah i).toInt ≤ (ah n).toInt + d.toInt) ∨ (cq = 1 ∧ msum bl bh 48 < msum al ah 48))
theorem jst_no {d : Int32} {gl gh al ah : Nat → Int32} {i : Nat} {P N : Nat → Prop} {bl bh : Nat → Int32} {cq : Int32} (h : jst d gl gh al ah i P bl bh cq) (hno : ∀ n, n < 48 → ¬ N n) : jst d gl gh al ah i (fun n => P n ∨ N n) bl bh cq := by
  obtain ⟨h1, h2, h3⟩ := h
  refine ⟨h1, h2, h3.imp (fun ⟨a, b, c, e, f⟩ => ⟨a, b, c, e, fun n hn hp => hp.elim (f n hn) (fun q => absurd q (hno n hn))⟩) id⟩
theorem jst_yes {d : Int32} {gl gh al ah : Nat → Int32} {i b : Nat} {P N : Nat → Prop} {bl bh : Nat → Int32} {cq : Int32} (hd : 0 ≤ d.toInt ∧ d.toInt ≤ 1000) (hi : i < 48) (hb : b < 48) (hnb : nbr i b) (h : jst d gl gh al ah i P bl bh cq) (hN : ∀ n, n < 48 → N n → n = b) : jst d gl gh al ah i (fun n => P n ∨ N n) (tcL i (bl b - d) bl) (tcH i (bh b + d) bh) (if bl i < bl b - d ∨ bh b + d < bh i then 1 else cq) := by
  obtain ⟨⟨r1, r2⟩, ⟨m1, m2⟩, h3⟩ := h
  have kL := tcL_keep hd r1 m1 hi hb hnb
  have kH := tcH_keep hd r2 m2 hi hb hnb
  refine ⟨⟨kL.1, kH.1⟩, ⟨kL.2.1, kH.2.1⟩, ?_⟩
  by_cases hc : bl i < bl b - d ∨ bh b + d < bh i
  · rw [if_pos hc]
    refine Or.inr ⟨rfl, ?_⟩
    have hlt : msum (tcL i (bl b - d) bl) (tcH i (bh b + d) bh) 48 < msum bl bh 48 := by
      refine msum_lt 48 (fun j _ => ⟨kL.2.2 j, kH.2.2 j⟩) ⟨i, hi, ?_⟩
      rcases hc with q | q
      · refine Or.inl ⟨?_, (kL.1 i hi).2⟩
        rw [tcL_at, if_pos q]; exact (fa_lt _ _).mp q
      · refine Or.inr ⟨(kH.1 i hi).1, ?_⟩
        rw [tcH_at, if_pos q]; exact (fa_lt _ _).mp q
    rcases h3 with ⟨_, e1, e2, _⟩ | ⟨_, h4⟩
    · rw [e1, e2] at hlt; rw [e1, e2]; exact hlt
    · exact Nat.lt_trans hlt h4
  · rw [if_neg hc]
    have nl : ¬ bl i < bl b - d := fun q => hc (Or.inl q)
    have nh : ¬ bh b + d < bh i := fun q => hc (Or.inr q)
    have e1 : tcL i (bl b - d) bl = bl := by unfold tcL; rw [if_neg nl]; exact fa_upd_same rfl
    have e2 : tcH i (bh b + d) bh = bh := by unfold tcH; rw [if_neg nh]; exact fa_upd_same rfl
    rw [e1, e2]
    refine h3.imp (fun ⟨a, b1, c, e, f⟩ => ⟨a, b1, c, e, fun n hn hp => hp.elim (f n hn) (fun q => ?_)⟩) id
    have en := hN n hn q
    subst en
    have s1 := sub_small (r1 n hn) hd
    have s2 := add_small (r2 n hn) hd
    have q1 := (fa_le _ _).mp (Int32.not_lt.mp nl)
    have q2 := (fa_le _ _).mp (Int32.not_lt.mp nh)
    rw [← b1, ← c]
    omega
theorem jst_next {d : Int32} {gl gh al ah : Nat → Int32} {i : Nat} {P : Nat → Prop} {bl bh : Nat → Int32} {cq : Int32} (h : jst d gl gh al ah i P bl bh cq) (hP : ∀ n, n < 48 → nbr i n → P n) : jst d gl gh al ah (i + 1) (fun _ => False) bl bh cq := by
  obtain ⟨h1, h2, h3⟩ := h
  refine ⟨h1, h2, h3.imp (fun ⟨a, b, c, e, f⟩ => ⟨a, b, c, fun s n hs hn hb => ?_, fun n _ q => q.elim⟩) id⟩
  by_cases hsi : s = i
  · subst hsi; exact f n hn (hP n hn hb)
  · exact e s n (by omega) hn hb
