theorem chL_cg {g g' a b : Nat → Int32} {f f' s : Nat} (hab : ∀ j, j < 48 → a j = b j) : ∀ n, s + n ≤ 48 → (∀ c, c < n → g (f + c) = g' (f' + c)) → ∀ j, j < 48 → chL g f s a n j = chL g' f' s b n j
  | 0, _, _, j, hj => hab j hj
  | n + 1, hn, hg, j, hj => by
    have ih := chL_cg (s := s) hab n (by omega) (fun c hc => hg c (by omega))
    rw [chL, chL, hg n (by omega)]
    by_cases q : g' (f' + n) < 0
    · rw [if_pos q, if_pos q]; exact ih j hj
    · rw [if_neg q, if_neg q]; exact tcL_cg (by omega) ih hj
theorem chH_cg {g g' a b : Nat → Int32} {f f' s : Nat} (hab : ∀ j, j < 48 → a j = b j) : ∀ n, s + n ≤ 48 → (∀ c, c < n → g (f + c) = g' (f' + c)) → ∀ j, j < 48 → chH g f s a n j = chH g' f' s b n j
  | 0, _, _, j, hj => hab j hj
  | n + 1, hn, hg, j, hj => by
    have ih := chH_cg (s := s) hab n (by omega) (fun c hc => hg c (by omega))
    rw [chH, chH, hg n (by omega)]
    by_cases q : g' (f' + n) < 0
    · rw [if_pos q, if_pos q]; exact ih j hj
    · rw [if_neg q, if_neg q]; exact tcH_cg (by omega) ih hj
theorem chL_rg {g a : Nat → Int32} {f s : Nat} (ha : rngL a) : ∀ n, (∀ c, c < n → g (f + c) ≤ 1000) → rngL (chL g f s a n)
  | 0, _ => ha
  | n + 1, hg => by
    have ih := chL_rg (s := s) ha n (fun c hc => hg c (by omega))
    rw [chL]
    by_cases q : g (f + n) < 0
    · rw [if_pos q]; exact ih
    · rw [if_neg q]; exact rng_tcL ih ⟨Int32.not_lt.mp q, hg n (by omega)⟩
theorem chH_rg {g a : Nat → Int32} {f s : Nat} (ha : rngL a) : ∀ n, (∀ c, c < n → g (f + c) ≤ 1000) → rngL (chH g f s a n)
  | 0, _ => ha
  | n + 1, hg => by
    have ih := chH_rg (s := s) ha n (fun c hc => hg c (by omega))
    rw [chH]
    by_cases q : g (f + n) < 0
    · rw [if_pos q]; exact ih
    · rw [if_neg q]; exact rng_tcH ih ⟨Int32.not_lt.mp q, hg n (by omega)⟩
theorem cfault_0 {ln le la : Int32} {ia nn sa : Nat} (h1 : ¬ ln = -1) (h2 : ln = la) (h3 : ia + nn ≤ 48) (h4 : ((ia + nn : Nat) : Int) ≤ le.toInt) (h5 : sa + nn ≤ 48) (h6 : sa < 48) : cfault ln le la (nI ia) (nI nn) (nI sa) = 0 := by
  have e : (48 : Int32) - nI sa = nI (48 - sa) := pk_sub (a := 48) (by omega)
  have h48 : ¬ (48 : Int32) - nI sa < nI nn := by
    rw [e]; exact Int32.not_lt.mpr (nI_le (by omega) (by omega))
  rw [cfault, if_neg h1, if_neg (not_not_intro h2), if_neg (not_not_intro (nI_pos' (by omega))), if_neg (fun z => z.2 (hold_of h4 h3)), if_neg h48]
/-- what the reference's chart does to the lode: nothing, or it narrows -/
theorem chart_R {zr v : RS2} {k ln ix n sv r' : Int32} (hr : pR_chart zr k ln ix n sv r' v) : (gC v = gC zr ∧ ∀ js ia sa nn : Nat, k = nI js → js < 4 → ix = nI ia → sv = nI sa → n = nI nn → sa < 48 → (0 ≤ ln ∧ ln ≤ 2) → 0 ≤ rs_I zr 7 js → rs_I zr 8 js = ln → ia + nn ≤ 48 → sa + nn ≤ 48 → ((ia + nn : Nat) : Int) ≤ (rs_I zr 7 js).toInt → (∀ c, c < nn → rs_I zr 9 (48 * js + ia + c) ≤ 1000) → False) ∨
    (∃ js ia sa nn : Nat, k = nI js ∧ js < 4 ∧ ix = nI ia ∧ sv = nI sa ∧ n = nI nn ∧ (0 ≤ sv ∧ sv ≤ 47) ∧ (0 ≤ ln ∧ ln ≤ 2) ∧ 0 ≤ rs_I zr 7 js ∧ rs_I zr 8 js = ln ∧ ia + nn ≤ 48 ∧ sa + nn ≤ 48 ∧ ((ia + nn : Nat) : Int) ≤ (rs_I zr 7 js).toInt ∧ (∀ c, c < nn → rs_I zr 9 (48 * js + ia + c) ≤ 1000) ∧ ∃ (fl1 fh1 al1 ah1 : Nat → Int32) (fa1 q : Int32), (((minL (rs_i zr 1) (chL (rs_I zr 9) (48 * js + ia) sa (rs_I zr 2) nn) al1 ∧ maxH (rs_i zr 1) (chH (rs_I zr 9) (48 * js + ia) sa (rs_I zr 3) nn) ah1) ∧ (rngL al1 ∧ rngL ah1)) ∧ ((q = -3 ∧ (∃ j, j < 48 ∧ ah1 j < al1 j) ∧ fl1 = (rs_I zr 2) ∧ fh1 = (rs_I zr 3) ∧ fa1 = (rs_i zr 1)) ∨ (q = nI (fa_cnt (chg (rs_I zr 2) (rs_I zr 3) al1 ah1) 48) ∧ (∀ j, j < 48 → ¬ ah1 j < al1 j) ∧ (∀ s n, s < 48 → n < 48 → nbr s n → (al1 n).toInt - (rs_i zr 1).toInt ≤ (al1 s).toInt ∧ (ah1 s).toInt ≤ (ah1 n).toInt + (rs_i zr 1).toInt) ∧ fl1 = al1 ∧ fh1 = ah1 ∧ fa1 = (rs_i zr 1)))) ∧ gC v = (fa1, fl1, fh1)) := by
  have n47 : ∀ sa : Nat, sa < 48 → (0 : Int32) ≤ nI sa ∧ nI sa ≤ 47 := fun sa h => ⟨nI_pos' (by omega), show _ ≤ nI 47 from nI_le (by omega) (by omega)⟩
  have h48 : (48 : Int32).toInt = 48 := by decide
  rcases hr with ⟨hno, rfl, rfl⟩ | ⟨js', ek', hjs', c6', c8', c10', c12', _⟩ | ⟨js', ek', hjs', c6', c8', c10', c12', _⟩ | ⟨js', ek', hjs', c6', c8', c10', c12', _⟩ | ⟨js', ek', hjs', c6', c8', c10', c12', _⟩ | ⟨js', ek', hjs', c6', c8', c10', c12', _⟩ | ⟨js', ek', hjs', c6', c8', c10', c12', rfl, rfl⟩ | ⟨js', ek', hjs', c6', c8', c10', c42', c44', c45', c48', rfl, rfl⟩ | ⟨js', ek', hjs', c6', c8', c10', c42', c44', c45', ia', sa', nn2', eix', esv', en', hian', hsn', hia2', al', ah', cq', rfl, rfl, hle', fl1, fh1, al1, ah1, cq1, fa1, q, hq, rfl, rfl⟩ | ⟨js', ek', hjs', c6', c8', c10', c42', c44', c45', ia', sa', nn2', eix', esv', en', hian', hsn', hia2', i136', hlti136', al', ah', cq', hal', hah', c63', rfl, rfl⟩ | ⟨js', ek', hjs', c6', c8', c10', c42', c44', c45', c48', c51', rfl, rfl⟩ | ⟨js', ek', hjs', c6', c8', c10', c42', c44', c45', rfl, rfl⟩ | ⟨js', ek', hjs', c6', c8', c10', c42', c44', rfl, rfl⟩ | ⟨js', ek', hjs', c6', c8', c10', c42', rfl, rfl⟩ | ⟨js', ek', hjs', c6', c8', rfl, rfl⟩ | ⟨js', ek', hjs', c6', rfl, rfl⟩
  · exact Or.inl ⟨rfl, fun js ia sa nn e1 h1 e2 e3 e4 h2 h3 h4 h5 h6 h7 h8 h9 => hno js h1 e1⟩
  · exact absurd c10' (Int32.not_lt.mpr c12')
  · exact absurd c10' (Int32.not_lt.mpr c12')
  · exact absurd c10' (Int32.not_lt.mpr c12')
  · exact absurd c10' (Int32.not_lt.mpr c12')
  · exact absurd c10' (Int32.not_lt.mpr c12')
  · refine Or.inl ⟨rfl, fun js ia sa nn e1 h1 e2 e3 e4 h2 h3 h4 h5 h6 h7 h8 h9 => ?_⟩
    obtain rfl := nI4 h1 hjs' (e1.symm.trans ek')
    exact c12' h4
  · refine Or.inl ⟨rfl, fun js ia sa nn e1 h1 e2 e3 e4 h2 h3 h4 h5 h6 h7 h8 h9 => ?_⟩
    obtain rfl := nI4 h1 hjs' (e1.symm.trans ek')
    rw [e2, e4] at c48'
    exact c48' (hold_of h8 h6)
  · exact Or.inr ⟨js', ia', sa', nn2', ek', hjs', eix', esv', en', c6', c8', c44', c42', hian', hsn', hia2', hle', fl1, fh1, al1, ah1, fa1, _, hq, rfl⟩
  · refine Or.inl ⟨rfl, fun js ia sa nn e1 h1 e2 e3 e4 h2 h3 h4 h5 h6 h7 h8 h9 => ?_⟩
    obtain rfl := nI4 h1 hjs' (e1.symm.trans ek')
    obtain rfl : ia = ia' := (nI_eq (by omega) (by omega)).mp (e2.symm.trans eix')
    obtain rfl : nn = nn2' := (nI_eq (by omega) (by omega)).mp (e4.symm.trans en')
    exact c63' (h9 i136' hlti136')
  · refine Or.inl ⟨rfl, fun js ia sa nn e1 h1 e2 e3 e4 h2 h3 h4 h5 h6 h7 h8 h9 => ?_⟩
    rw [e3, e4] at c51'
    exact c51' (hold_of (by rw [h48]; omega) h7)
  · refine Or.inl ⟨rfl, fun js ia sa nn e1 h1 e2 e3 e4 h2 h3 h4 h5 h6 h7 h8 h9 => ?_⟩
    rw [e4] at c45'
    exact c45' (nI_pos' (by omega))
  · refine Or.inl ⟨rfl, fun js ia sa nn e1 h1 e2 e3 e4 h2 h3 h4 h5 h6 h7 h8 h9 => ?_⟩
    obtain rfl := nI4 h1 hjs' (e1.symm.trans ek')
    exact c44' h4
  · refine Or.inl ⟨rfl, fun js ia sa nn e1 h1 e2 e3 e4 h2 h3 h4 h5 h6 h7 h8 h9 => ?_⟩
    obtain rfl := nI4 h1 hjs' (e1.symm.trans ek')
    exact c42' h5
  · exact Or.inl ⟨rfl, fun js ia sa nn e1 h1 e2 e3 e4 h2 h3 h4 h5 h6 h7 h8 h9 => c8' h3⟩
  · refine Or.inl ⟨rfl, fun js ia sa nn e1 h1 e2 e3 e4 h2 h3 h4 h5 h6 h7 h8 h9 => ?_⟩
    rw [e3] at c6'
    exact c6' (n47 sa h2)
theorem stC_chart {zc u : CS} {zr v : RS2} {k ln ix n sv r r' : Int32} (hI : invC zc) (hB : relB zc zr) (h : relC zc zr) (hc : pC_chart zc k ln ix n sv r u) (hr : pR_chart zr k ln ix n sv r' v) : relC u v := by
  obtain ⟨a1, a2, a3, a4, a5, a6, a7, a8⟩ := relC_i h
  rcases chart_R hr with ⟨hg, hno⟩ | ⟨js', ia', sa', nn', ek', hjs', eix', esv', en', d1, d2, d3, d4, d5, d6, d7, d8, fl1', fh1', al1, ah1, fa1, q', hR, hg⟩
  · rcases hc with ⟨_, rfl, rfl⟩ | ⟨js, ek, hjs, c4, c6, c8, sa, en, esv, hs48, fl1, fh1, la1, tl, th, q, hC, rfl, rfl⟩ | ⟨js, ek, hjs, c4, c6, c8, nn, sa, en, esv, hsn, hs48, ia, eix, hian, hia2, hab, al, ah, rfl, rfl, fl1, fh1, la1, tl, th, q, hC, rfl, rfl⟩ | ⟨js, ek, hjs, c4, c6, c8, nn, sa, en, esv, hsn, hs48, ia, eix, hian, hia2, hab, rfl, rfl⟩ | ⟨js, ek, hjs, c4, c6, c8, rfl, rfl⟩ | ⟨js, ek, hjs, c4, c6, rfl, rfl⟩ | ⟨js, ek, hjs, c4, rfl, rfl⟩
    · exact relC_of rfl hg h
    · unfold relC; rw [hg]; exact nar_same (relC_i h) hC
    · exfalso
      have hs := relB_at hB hjs
      obtain ⟨f1, f2, -⟩ := cf0 (hI.2.2.2.2.2 js hjs).2 c4 c8
      obtain ⟨y1, y2, y3, y4, y5⟩ := rB_yes hs f2
      exact hno js ia sa nn ek hjs eix esv en hs48 c6 (by rw [← y3]; exact (fa_le _ _).mpr y4.1) (by rw [← y2]; exact f1) hian hsn (by rw [← y3]; exact hia2) (fun c hc => by
        have e : 48 * js + ia + c = 48 * js + (ia + c) := by omega
        rw [e, ← y5 (ia + c) (by omega)]; exact hab c hc)
    all_goals exact relC_of rfl hg h
  · have hs := relB_at hB hjs'
    have nn1 : ¬ cs_I zc 8 js' = -1 := fun q => (rB_neg hs).2.mp q d3
    obtain ⟨y1, y2, y3, y4, y5⟩ := rB_yes hs nn1
    have hcf : cfault (cs_I zc 8 js') (cs_I zc 9 js') ln ix n sv = 0 := by
      rw [eix', en', esv']
      have h47 : sa' < 48 := by
        have q := (fa_le _ _).mp d1.2
        rw [esv', nI_toInt (by omega)] at q
        have e47 : (47 : Int32).toInt = 47 := by decide
        omega
      exact cfault_0 nn1 (y2.trans d4) d5 (by rw [y3]; exact d7) d6 h47
    rcases hc with ⟨hno, _⟩ | ⟨js, ek, hjs, c4, c6, c8, sa, en, esv, hs48, fl1, fh1, la1, tl, th, q, hC, rfl, rfl⟩ | ⟨js, ek, hjs, c4, c6, c8, nn, sa, en, esv, hsn, hs48, ia, eix, hian, hia2, hab, al, ah, rfl, rfl, fl1, fh1, la1, tl, th, q, hC, rfl, rfl⟩ | ⟨js, ek, hjs, c4, c6, c8, nn, sa, en, esv, hsn, hs48, ia, eix, hian, hia2, ⟨c, hcn, hab⟩, _⟩ | ⟨js, ek, hjs, c4, c6, c8, _⟩ | ⟨js, ek, hjs, c4, c6, _⟩ | ⟨js, ek, hjs, c4, _⟩
    · exact absurd ek' (hno js' hjs')
    · obtain rfl : 0 = nn' := (nI_eq (by omega) (by omega)).mp (en.symm.trans en')
      unfold relC; rw [hg]
      exact (nar_both a2 a1 a5 a6 a3 a4 (relC_i h) hC hR).2
    · obtain rfl : js = js' := nI4 hjs hjs' (ek.symm.trans ek')
      obtain rfl : nn = nn' := (nI_eq (by omega) (by omega)).mp (en.symm.trans en')
      obtain rfl : sa = sa' := (nI_eq (by omega) (by omega)).mp (esv.symm.trans esv')
      obtain rfl : ia = ia' := (nI_eq (by omega) (by omega)).mp (eix.symm.trans eix')
      unfold relC; rw [hg]
      have hcell : ∀ c, c < nn → cs_S zc js (ia + c) = rs_I zr 9 (48 * js + ia + c) := fun c hc => by
        rw [y5 (ia + c) (by omega)]; congr 1; omega
      exact (nar_both a2 a1 (chL_rg a5 nn hab) (chH_rg a6 nn hab) (chL_cg a3 nn hsn hcell) (chH_cg a4 nn hsn hcell) (relC_i h) hC hR).2
    · exfalso
      obtain rfl : js = js' := nI4 hjs hjs' (ek.symm.trans ek')
      obtain rfl : nn = nn' := (nI_eq (by omega) (by omega)).mp (en.symm.trans en')
      obtain rfl : ia = ia' := (nI_eq (by omega) (by omega)).mp (eix.symm.trans eix')
      have e : 48 * js + ia + c = 48 * js + (ia + c) := by omega
      have q := d8 c hcn
      rw [e, ← y5 (ia + c) (by omega)] at q
      exact absurd hab (Int32.not_lt.mpr q)
    · obtain rfl : js = js' := nI4 hjs hjs' (ek.symm.trans ek')
      exact absurd hcf c8
    · exact absurd d2 c6
    · exact absurd d1 c4
