theorem jst_start {d : Int32} {gl gh al ah : Nat → Int32} (h : (rngL al ∧ rngL ah) ∧ (minL d gl al ∧ maxH d gh ah)) : jst d gl gh al ah 0 (fun _ => False) al ah 0 :=
  ⟨h.1, h.2, Or.inl ⟨rfl, rfl, rfl, fun s _ hs => absurd hs (Nat.not_lt_zero s), fun _ _ q => q.elim⟩⟩
theorem jst_end {d : Int32} {gl gh al ah : Nat → Int32} {bl bh : Nat → Int32} {cq : Int32} (h : jst d gl gh al ah 48 (fun _ => False) bl bh cq) : (cq = 0 → ∀ s n, s < 48 → n < 48 → nbr s n → (bl n).toInt - d.toInt ≤ (bl s).toInt ∧ (bh s).toInt ≤ (bh n).toInt + d.toInt) ∧ ∀ {ch : Int32}, ¬ ch = 0 → msum bl bh 48 + (if cq = 0 then 0 else 1) < msum al ah 48 + (if ch = 0 then 0 else 1) := by
  obtain ⟨_, _, h3⟩ := h
  rcases h3 with ⟨rfl, rfl, rfl, e, _⟩ | ⟨rfl, h4⟩
  · exact ⟨fun _ => e, fun {ch} hc => by rw [if_pos rfl, if_neg hc]; omega⟩
  · exact ⟨fun q => absurd q (by decide), fun {ch} hc => by rw [if_neg (by decide), if_neg hc]; omega⟩
theorem nb_all {i : Nat} : ∀ n, n < 48 → nbr i n → ((((False ∨ (i % 8 ≠ 0 ∧ n + 1 = i)) ∨ (i % 8 ≠ 7 ∧ n = i + 1)) ∨ (n + 8 = i)) ∨ (n = i + 8)) := by
  intro n _ h
  unfold nbr at h
  omega
theorem nbq1 {i : Nat} (hi : i < 48) : (i % 8 = 0 → ¬ ((0 ≤ (nI (i % 8) - 1) ∧ (nI (i % 8) - 1) ≤ 7) ∧ (0 ≤ (nI (i / 8)) ∧ (nI (i / 8)) ≤ 5))) ∧ (¬ i % 8 = 0 → ((0 ≤ (nI (i % 8) - 1) ∧ (nI (i % 8) - 1) ≤ 7) ∧ (0 ≤ (nI (i / 8)) ∧ (nI (i / 8)) ≤ 5)) ∧ 8 * (nI (i / 8)) + (nI (i % 8) - 1) = nI (i - 1)) := by
  refine ⟨fun hm => fun q => absurd q.1.1 (by rw [hm]; decide), fun hm => ?_⟩
  have e1 : (nI (i % 8) - 1) = nI (i % 8 - 1) := pk_sub (b := 1) (by omega)
  have e2 : (nI (i / 8)) = nI (i / 8) := rfl
  rw [e1, e2, sqn]
  exact ⟨⟨⟨nI_pos' (by omega), show _ ≤ nI 7 from nI_le (by omega) (by omega)⟩, nI_pos' (by omega), show _ ≤ nI 5 from nI_le (by omega) (by omega)⟩, congrArg nI (by omega)⟩
theorem nbq2 {i : Nat} (hi : i < 48) : (i % 8 = 7 → ¬ ((0 ≤ (nI (i % 8) + 1) ∧ (nI (i % 8) + 1) ≤ 7) ∧ (0 ≤ (nI (i / 8)) ∧ (nI (i / 8)) ≤ 5))) ∧ (¬ i % 8 = 7 → ((0 ≤ (nI (i % 8) + 1) ∧ (nI (i % 8) + 1) ≤ 7) ∧ (0 ≤ (nI (i / 8)) ∧ (nI (i / 8)) ≤ 5)) ∧ 8 * (nI (i / 8)) + (nI (i % 8) + 1) = nI (i + 1)) := by
  refine ⟨fun hm => fun q => absurd q.1.2 (by rw [hm]; decide), fun hm => ?_⟩
  have e1 : (nI (i % 8) + 1) = nI (i % 8 + 1) := nI_1 _
  have e2 : (nI (i / 8)) = nI (i / 8) := rfl
  rw [e1, e2, sqn]
  exact ⟨⟨⟨nI_pos' (by omega), show _ ≤ nI 7 from nI_le (by omega) (by omega)⟩, nI_pos' (by omega), show _ ≤ nI 5 from nI_le (by omega) (by omega)⟩, congrArg nI (by omega)⟩
theorem nbq3 {i : Nat} (hi : i < 48) : (i < 8 → ¬ ((0 ≤ (nI (i % 8)) ∧ (nI (i % 8)) ≤ 7) ∧ (0 ≤ (nI (i / 8) - 1) ∧ (nI (i / 8) - 1) ≤ 5))) ∧ (¬ i < 8 → ((0 ≤ (nI (i % 8)) ∧ (nI (i % 8)) ≤ 7) ∧ (0 ≤ (nI (i / 8) - 1) ∧ (nI (i / 8) - 1) ≤ 5)) ∧ 8 * (nI (i / 8) - 1) + (nI (i % 8)) = nI (i - 8)) := by
  refine ⟨fun hm => fun q => absurd q.2.1 (by rw [show i / 8 = 0 by omega]; decide), fun hm => ?_⟩
  have e1 : (nI (i % 8)) = nI (i % 8) := rfl
  have e2 : (nI (i / 8) - 1) = nI (i / 8 - 1) := pk_sub (b := 1) (by omega)
  rw [e1, e2, sqn]
  exact ⟨⟨⟨nI_pos' (by omega), show _ ≤ nI 7 from nI_le (by omega) (by omega)⟩, nI_pos' (by omega), show _ ≤ nI 5 from nI_le (by omega) (by omega)⟩, congrArg nI (by omega)⟩
theorem nbq4 {i : Nat} (hi : i < 48) : (40 ≤ i → ¬ ((0 ≤ (nI (i % 8)) ∧ (nI (i % 8)) ≤ 7) ∧ (0 ≤ (nI (i / 8) + 1) ∧ (nI (i / 8) + 1) ≤ 5))) ∧ (¬ 40 ≤ i → ((0 ≤ (nI (i % 8)) ∧ (nI (i % 8)) ≤ 7) ∧ (0 ≤ (nI (i / 8) + 1) ∧ (nI (i / 8) + 1) ≤ 5)) ∧ 8 * (nI (i / 8) + 1) + (nI (i % 8)) = nI (i + 8)) := by
  refine ⟨fun hm => fun q => absurd q.2.2 (by rw [show i / 8 = 5 by omega]; decide), fun hm => ?_⟩
  have e1 : (nI (i % 8)) = nI (i % 8) := rfl
  have e2 : (nI (i / 8) + 1) = nI (i / 8 + 1) := nI_1 _
  rw [e1, e2, sqn]
  exact ⟨⟨⟨nI_pos' (by omega), show _ ≤ nI 7 from nI_le (by omega) (by omega)⟩, nI_pos' (by omega), show _ ≤ nI 5 from nI_le (by omega) (by omega)⟩, congrArg nI (by omega)⟩
theorem jn1 {d : Int32} {gl gh al ah : Nat → Int32} {i : Nat} {P : Nat → Prop} {bl bh al2 ah2 : Nat → Int32} {cq cq2 : Int32} (hd : 0 ≤ d.toInt ∧ d.toInt ≤ 1000) (hi : i < 48) (h : jst d gl gh al ah i P bl bh cq) (hp : (¬ ((0 ≤ (nI (i % 8) - 1) ∧ (nI (i % 8) - 1) ≤ 7) ∧ (0 ≤ (nI (i / 8)) ∧ (nI (i / 8)) ≤ 5)) ∧ al2 = bl ∧ ah2 = bh ∧ cq2 = cq) ∨ (∃ b, b < 48 ∧ ((0 ≤ (nI (i % 8) - 1) ∧ (nI (i % 8) - 1) ≤ 7) ∧ (0 ≤ (nI (i / 8)) ∧ (nI (i / 8)) ≤ 5)) ∧ 8 * (nI (i / 8)) + (nI (i % 8) - 1) = nI b ∧ al2 = tcL i (bl b - d) bl ∧ ah2 = tcH i (bh b + d) bh ∧ cq2 = (if bl i < bl b - d ∨ bh b + d < bh i then 1 else cq))) : jst d gl gh al ah i (fun n => P n ∨ (i % 8 ≠ 0 ∧ n + 1 = i)) al2 ah2 cq2 := by
  have hq := nbq1 hi
  by_cases hm : i % 8 = 0
  · rcases hp with ⟨_, rfl, rfl, rfl⟩ | ⟨b, _, hs, _⟩
    · exact jst_no h (fun n hn q => by omega)
    · exact absurd hs (hq.1 hm)
  · rcases hp with ⟨hs, _⟩ | ⟨b, hb, _, e, rfl, rfl, rfl⟩
    · exact absurd (hq.2 hm).1 hs
    · have eb : b = i - 1 := (nI_eq (by omega) (by omega)).mp (e.symm.trans (hq.2 hm).2)
      exact jst_yes hd hi hb (by unfold nbr; omega) h (fun n hn q => by omega)
theorem jn2 {d : Int32} {gl gh al ah : Nat → Int32} {i : Nat} {P : Nat → Prop} {bl bh al2 ah2 : Nat → Int32} {cq cq2 : Int32} (hd : 0 ≤ d.toInt ∧ d.toInt ≤ 1000) (hi : i < 48) (h : jst d gl gh al ah i P bl bh cq) (hp : (¬ ((0 ≤ (nI (i % 8) + 1) ∧ (nI (i % 8) + 1) ≤ 7) ∧ (0 ≤ (nI (i / 8)) ∧ (nI (i / 8)) ≤ 5)) ∧ al2 = bl ∧ ah2 = bh ∧ cq2 = cq) ∨ (∃ b, b < 48 ∧ ((0 ≤ (nI (i % 8) + 1) ∧ (nI (i % 8) + 1) ≤ 7) ∧ (0 ≤ (nI (i / 8)) ∧ (nI (i / 8)) ≤ 5)) ∧ 8 * (nI (i / 8)) + (nI (i % 8) + 1) = nI b ∧ al2 = tcL i (bl b - d) bl ∧ ah2 = tcH i (bh b + d) bh ∧ cq2 = (if bl i < bl b - d ∨ bh b + d < bh i then 1 else cq))) : jst d gl gh al ah i (fun n => P n ∨ (i % 8 ≠ 7 ∧ n = i + 1)) al2 ah2 cq2 := by
  have hq := nbq2 hi
  by_cases hm : i % 8 = 7
  · rcases hp with ⟨_, rfl, rfl, rfl⟩ | ⟨b, _, hs, _⟩
    · exact jst_no h (fun n hn q => by omega)
    · exact absurd hs (hq.1 hm)
  · rcases hp with ⟨hs, _⟩ | ⟨b, hb, _, e, rfl, rfl, rfl⟩
    · exact absurd (hq.2 hm).1 hs
    · have eb : b = i + 1 := (nI_eq (by omega) (by omega)).mp (e.symm.trans (hq.2 hm).2)
      exact jst_yes hd hi hb (by unfold nbr; omega) h (fun n hn q => by omega)
theorem jn3 {d : Int32} {gl gh al ah : Nat → Int32} {i : Nat} {P : Nat → Prop} {bl bh al2 ah2 : Nat → Int32} {cq cq2 : Int32} (hd : 0 ≤ d.toInt ∧ d.toInt ≤ 1000) (hi : i < 48) (h : jst d gl gh al ah i P bl bh cq) (hp : (¬ ((0 ≤ (nI (i % 8)) ∧ (nI (i % 8)) ≤ 7) ∧ (0 ≤ (nI (i / 8) - 1) ∧ (nI (i / 8) - 1) ≤ 5)) ∧ al2 = bl ∧ ah2 = bh ∧ cq2 = cq) ∨ (∃ b, b < 48 ∧ ((0 ≤ (nI (i % 8)) ∧ (nI (i % 8)) ≤ 7) ∧ (0 ≤ (nI (i / 8) - 1) ∧ (nI (i / 8) - 1) ≤ 5)) ∧ 8 * (nI (i / 8) - 1) + (nI (i % 8)) = nI b ∧ al2 = tcL i (bl b - d) bl ∧ ah2 = tcH i (bh b + d) bh ∧ cq2 = (if bl i < bl b - d ∨ bh b + d < bh i then 1 else cq))) : jst d gl gh al ah i (fun n => P n ∨ (n + 8 = i)) al2 ah2 cq2 := by
  have hq := nbq3 hi
  by_cases hm : i < 8
  · rcases hp with ⟨_, rfl, rfl, rfl⟩ | ⟨b, _, hs, _⟩
    · exact jst_no h (fun n hn q => by omega)
    · exact absurd hs (hq.1 hm)
  · rcases hp with ⟨hs, _⟩ | ⟨b, hb, _, e, rfl, rfl, rfl⟩
    · exact absurd (hq.2 hm).1 hs
    · have eb : b = i - 8 := (nI_eq (by omega) (by omega)).mp (e.symm.trans (hq.2 hm).2)
      exact jst_yes hd hi hb (by unfold nbr; omega) h (fun n hn q => by omega)
theorem jn4 {d : Int32} {gl gh al ah : Nat → Int32} {i : Nat} {P : Nat → Prop} {bl bh al2 ah2 : Nat → Int32} {cq cq2 : Int32} (hd : 0 ≤ d.toInt ∧ d.toInt ≤ 1000) (hi : i < 48) (h : jst d gl gh al ah i P bl bh cq) (hp : (¬ ((0 ≤ (nI (i % 8)) ∧ (nI (i % 8)) ≤ 7) ∧ (0 ≤ (nI (i / 8) + 1) ∧ (nI (i / 8) + 1) ≤ 5)) ∧ al2 = bl ∧ ah2 = bh ∧ cq2 = cq) ∨ (∃ b, b < 48 ∧ ((0 ≤ (nI (i % 8)) ∧ (nI (i % 8)) ≤ 7) ∧ (0 ≤ (nI (i / 8) + 1) ∧ (nI (i / 8) + 1) ≤ 5)) ∧ 8 * (nI (i / 8) + 1) + (nI (i % 8)) = nI b ∧ al2 = tcL i (bl b - d) bl ∧ ah2 = tcH i (bh b + d) bh ∧ cq2 = (if bl i < bl b - d ∨ bh b + d < bh i then 1 else cq))) : jst d gl gh al ah i (fun n => P n ∨ (n = i + 8)) al2 ah2 cq2 := by
  have hq := nbq4 hi
  by_cases hm : 40 ≤ i
  · rcases hp with ⟨_, rfl, rfl, rfl⟩ | ⟨b, _, hs, _⟩
    · exact jst_no h (fun n hn q => by omega)
    · exact absurd hs (hq.1 hm)
  · rcases hp with ⟨hs, _⟩ | ⟨b, hb, _, e, rfl, rfl, rfl⟩
    · exact absurd (hq.2 hm).1 hs
    · have eb : b = i + 8 := (nI_eq (by omega) (by omega)).mp (e.symm.trans (hq.2 hm).2)
      exact jst_yes hd hi hb (by unfold nbr; omega) h (fun n hn q => by omega)
