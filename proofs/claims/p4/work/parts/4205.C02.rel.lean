/-! layer C: the lode -/
def fC (z : CS) : Int32 × (Nat → Int32) × (Nat → Int32) := (cs_i z 0, cs_I z 0, cs_I z 1)
def gC (z : RS2) : Int32 × (Nat → Int32) × (Nat → Int32) := (rs_i z 1, rs_I z 2, rs_I z 3)
def rC (a b : Int32 × (Nat → Int32) × (Nat → Int32)) : Prop := a.1 = b.1 ∧ (0 ≤ a.1.toInt ∧ a.1.toInt ≤ 1000) ∧ (∀ j, j < 48 → a.2.1 j = b.2.1 j) ∧ (∀ j, j < 48 → a.2.2 j = b.2.2 j) ∧ rngL a.2.1 ∧ rngL a.2.2 ∧ clo a.1 a.2.1 a.2.2 ∧ ∀ j, j < 48 → ¬ a.2.2 j < a.2.1 j
def relC (zc : CS) (zr : RS2) : Prop := rC (fC zc) (gC zr)
theorem relC_of {zc u : CS} {zr v : RS2} (h1 : fC u = fC zc) (h2 : gC v = gC zr) (h : relC zc zr) : relC u v := by
  unfold relC; rw [h1, h2]; exact h
theorem relC_0 {x : Nat → Nat → Nat} : relC (z0C x) z0R := by
  refine ⟨rfl, (by decide : 0 ≤ (1000 : Int32).toInt ∧ (1000 : Int32).toInt ≤ 1000), fun j _ => rfl, fun j _ => rfl, fun j _ => (by decide : 0 ≤ (0 : Int32).toInt ∧ (0 : Int32).toInt ≤ 1000), fun j _ => (by decide : 0 ≤ (1000 : Int32).toInt ∧ (1000 : Int32).toInt ≤ 1000), fun s n _ _ _ => ?_, fun j _ => (by decide : ¬ (1000 : Int32) < 0)⟩
  exact (by decide : (0 : Int32).toInt - (1000 : Int32).toInt ≤ (0 : Int32).toInt ∧ (1000 : Int32).toInt ≤ (1000 : Int32).toInt + (1000 : Int32).toInt)
theorem nar_both {d d' fa fa' : Int32} {gl gh gl' gh' fl fh fl' fh' tl th al ah fl1 fh1 fl1' fh1' : Nat → Int32} {la1 fa1 r r' : Int32} (hd : 0 ≤ d.toInt ∧ d.toInt ≤ 1000) (ed : d = d') (hgl : rngL gl) (hgh : rngL gh) (e1 : ∀ j, j < 48 → gl j = gl' j) (e2 : ∀ j, j < 48 → gh j = gh' j) (old : rC (fa, fl, fh) (fa', fl', fh'))
    (hC : (tl = dnL d (swL d gl 48) 48 ∧ th = dnH d (swH d gh 48) 48) ∧ ((r = -3 ∧ (∃ j, j < 48 ∧ th j < tl j) ∧ fl1 = fl ∧ fh1 = fh ∧ la1 = fa) ∨ (r = nI (fa_cnt (chg fl fh tl th) 48) ∧ (∀ j, j < 48 → ¬ th j < tl j) ∧ fl1 = tl ∧ fh1 = th ∧ la1 = d)))
    (hR : ((minL d' gl' al ∧ maxH d' gh' ah) ∧ (rngL al ∧ rngL ah)) ∧ ((r' = -3 ∧ (∃ j, j < 48 ∧ ah j < al j) ∧ fl1' = fl' ∧ fh1' = fh' ∧ fa1 = fa') ∨ (r' = nI (fa_cnt (chg fl' fh' al ah) 48) ∧ (∀ j, j < 48 → ¬ ah j < al j) ∧ (∀ s n, s < 48 → n < 48 → nbr s n → (al n).toInt - d'.toInt ≤ (al s).toInt ∧ (ah s).toInt ≤ (ah n).toInt + d'.toInt) ∧ fl1' = al ∧ fh1' = ah ∧ fa1 = d'))) : r = r' ∧ rC (la1, fl1, fh1) (fa1, fl1', fh1') := by
  subst ed
  obtain ⟨⟨rfl, rfl⟩, hC⟩ := hC
  obtain ⟨⟨⟨m1, m2⟩, r1, r2⟩, hR⟩ := hR
  obtain ⟨⟨n1, n2⟩, n3, n4, n5⟩ := nar_C hd hgl hgh
  rcases hR with ⟨rfl, hx, rfl, rfl, rfl⟩ | ⟨rfl, hx, hcl, rfl, rfl, rfl⟩
  · have hcr := min_cross e1 e2 n3 m1 n4 m2 n5 hx
    rcases hC with ⟨rfl, _, rfl, rfl, rfl⟩ | ⟨_, hn, _⟩
    · exact ⟨rfl, old⟩
    · obtain ⟨j, hj, hc⟩ := hcr
      exact absurd hc (hn j hj)
  · obtain ⟨o1, o2⟩ := min_one e1 e2 n3 m1 n4 m2 n5 hcl
    rcases hC with ⟨_, ⟨j, hj, hc⟩, _⟩ | ⟨rfl, hn, rfl, rfl, rfl⟩
    · rw [o1 j hj, o2 j hj] at hc
      exact absurd hc (hx j hj)
    · refine ⟨?_, rfl, hd, o1, o2, n1, n2, n5, hn⟩
      refine congrArg nI (fa_cnt_cong fun j hj => ?_)
      have f1 : fl j = fl' j := old.2.2.1 j hj
      have f2 : fh j = fh' j := old.2.2.2.1 j hj
      simp only [chg, o1 j hj, o2 j hj, f1, f2]
/-- the class narrows what is closed: nothing changes -/
theorem nar_same {fa : Int32} {fl fh tl th fl1 fh1 : Nat → Int32} {la1 r : Int32} {b : Int32 × (Nat → Int32) × (Nat → Int32)} (old : rC (fa, fl, fh) b)
    (hC : (tl = dnL fa (swL fa fl 48) 48 ∧ th = dnH fa (swH fa fh 48) 48) ∧ ((r = -3 ∧ (∃ j, j < 48 ∧ th j < tl j) ∧ fl1 = fl ∧ fh1 = fh ∧ la1 = fa) ∨ (r = nI (fa_cnt (chg fl fh tl th) 48) ∧ (∀ j, j < 48 → ¬ th j < tl j) ∧ fl1 = tl ∧ fh1 = th ∧ la1 = fa))) : rC (la1, fl1, fh1) b := by
  obtain ⟨a1, a2, a3, a4, a5, a6, a7, a8⟩ := id old
  obtain ⟨⟨rfl, rfl⟩, hC⟩ := hC
  obtain ⟨⟨n1, n2⟩, n3, n4, n5⟩ := nar_C a2 a5 a6
  obtain ⟨o1, o2⟩ := min_one (fun _ _ => rfl) (fun _ _ => rfl) n3 minL_rf n4 maxH_rf n5 a7
  rcases hC with ⟨_, _, rfl, rfl, rfl⟩ | ⟨_, hn, rfl, rfl, rfl⟩
  · exact old
  · exact ⟨a1, a2, fun j hj => (o1 j hj).trans (a3 j hj), fun j hj => (o2 j hj).trans (a4 j hj), n1, n2, n5, hn⟩
theorem relC_i {zc : CS} {zr : RS2} (h : relC zc zr) : rC (cs_i zc 0, cs_I zc 0, cs_I zc 1) (rs_i zr 1, rs_I zr 2, rs_I zr 3) := h
theorem tcL_cg {s j : Nat} {v : Int32} {a b : Nat → Int32} (hs : s < 48) (h : ∀ j, j < 48 → a j = b j) (hj : j < 48) : tcL s v a j = tcL s v b j := by
  by_cases e : j = s
  · subst e; rw [tcL_at, tcL_at, h j hs]
  · rw [tcL_ne e, tcL_ne e, h j hj]
theorem tcH_cg {s j : Nat} {v : Int32} {a b : Nat → Int32} (hs : s < 48) (h : ∀ j, j < 48 → a j = b j) (hj : j < 48) : tcH s v a j = tcH s v b j := by
  by_cases e : j = s
  · subst e; rw [tcH_at, tcH_at, h j hs]
  · rw [tcH_ne e, tcH_ne e, h j hj]
theorem stC_rise {zc u : CS} {zr v : RS2} {dd r r' : Int32} (h : relC zc zr) (hc : pC_rise zc dd r u) (hr : pR_rise zr dd r' v) : relC u v ∧ r = r' := by
  obtain ⟨a1, a2, a3, a4, a5, a6, a7, a8⟩ := relC_i h
  have a1 : cs_i zc 0 = rs_i zr 1 := a1
  rcases hc with ⟨c1, c2, fl1, fh1, la1, tl, th, q, hC, rfl, rfl⟩ | ⟨c1, c2, rfl, rfl⟩ | ⟨c1, rfl, rfl⟩ <;> rcases hr with ⟨d1, d2, fl1', fh1', al, ah, cq, fa1, q', hR, rfl, rfl⟩ | ⟨d1, d2, rfl, rfl⟩ | ⟨d1, rfl, rfl⟩
  · have hz := nar_both (rg_d c1) rfl a5 a6 a3 a4 (relC_i h) hC hR
    exact ⟨hz.2, hz.1⟩
  · exact absurd (a1 ▸ c2) d2
  · exact absurd c1 d1
  · exact absurd (a1 ▸ d2) c2
  · exact ⟨h, rfl⟩
  · exact absurd c1 d1
  · exact absurd d1 c1
  · exact absurd d1 c1
  · exact ⟨h, rfl⟩
theorem stC_find {zc u : CS} {zr v : RS2} {x y lo hi r r' : Int32} (h : relC zc zr) (hc : pC_find zc x y lo hi r u) (hr : pR_find zr x y lo hi r' v) : relC u v ∧ r = r' := by
  obtain ⟨a1, a2, a3, a4, a5, a6, a7, a8⟩ := relC_i h
  have tr : (0 ≤ lo ∧ lo ≤ 1000) → (lo ≤ hi ∧ hi ≤ 1000) → (0 ≤ hi ∧ hi ≤ 1000) ∧ lo ≤ hi := fun q1 q2 => ⟨⟨Int32.le_trans q1.1 q2.1, q2.2⟩, q2.1⟩
  rcases hr with ⟨d1, d2, rfl, rfl⟩ | ⟨d1, d2, d3, sq', hsq', esq', al0, ah0, cq0, ⟨rfl, rfl, _⟩, fl1', fh1', al, ah, cq, fa1, q', hR, rfl, rfl⟩ | ⟨d1, d2, d3, rfl, rfl⟩ | ⟨d1, rfl, rfl⟩
  · rcases hc with ⟨c1, c2, rfl, rfl⟩ | ⟨c1, c2, c3, rfl, rfl⟩ | ⟨c1, c2, c3, c4, _⟩ | ⟨c1, c2, c3, c4, rfl, rfl⟩ | ⟨c1, rfl, rfl⟩
    · exact ⟨h, rfl⟩
    · exact ⟨h, rfl⟩
    · exact absurd c2 d2
    · exact ⟨h, rfl⟩
    · exact absurd d1 c1
  · rcases hc with ⟨c1, c2, rfl, rfl⟩ | ⟨c1, c2, c3, rfl, rfl⟩ | ⟨c1, c2, c3, c4, sq, hsq, esq, fl1, fh1, la1, tl, th, q, hC, rfl, rfl⟩ | ⟨c1, c2, c3, c4, rfl, rfl⟩ | ⟨c1, rfl, rfl⟩
    · exact absurd d2 c2
    · exact absurd (tr d2 d3).1 c3
    · obtain rfl : sq = sq' := (nI_eq (by omega) (by omega)).mp (esq.symm.trans esq')
      have hz := nar_both a2 a1 (rng_tcL a5 c2) (rng_tcH a6 c3) (fun j hj => tcL_cg hsq a3 hj) (fun j hj => tcH_cg hsq a4 hj) (relC_i h) hC hR
      exact ⟨hz.2, hz.1⟩
    · exact absurd (tr d2 d3).2 c4
    · exact absurd d1 c1
  · rcases hc with ⟨c1, c2, rfl, rfl⟩ | ⟨c1, c2, c3, rfl, rfl⟩ | ⟨c1, c2, c3, c4, _⟩ | ⟨c1, c2, c3, c4, rfl, rfl⟩ | ⟨c1, rfl, rfl⟩
    · exact ⟨h, rfl⟩
    · exact ⟨h, rfl⟩
    · exact absurd ⟨c4, c3.2⟩ d3
    · exact ⟨h, rfl⟩
    · exact absurd d1 c1
  · rcases hc with ⟨c1, c2, rfl, rfl⟩ | ⟨c1, c2, c3, rfl, rfl⟩ | ⟨c1, c2, c3, c4, _⟩ | ⟨c1, c2, c3, c4, rfl, rfl⟩ | ⟨c1, rfl, rfl⟩
    · exact absurd c1 d1
    · exact absurd c1 d1
    · exact absurd c1 d1
    · exact absurd c1 d1
    · exact ⟨h, rfl⟩
theorem stC_good' {zc u : CS} {zr v : RS2} {x y wh r r' : Int32} (h : relC zc zr) (hc : pC_good zc x y wh r u) (hr : pR_good zr x y wh r' v) : r = r' := by
  obtain ⟨a1, a2, a3, a4, a5, a6, a7, a8⟩ := relC_i h
  have sqi : ((0 ≤ x ∧ x ≤ 7) ∧ (0 ≤ y ∧ y ≤ 5)) → (8 * y + x).toNatClampNeg < 48 := fun q => by
    obtain ⟨sq, h1, h2⟩ := sqN q
    rw [h2, nI_clamp (by omega)]; exact h1
  have w01 : (0 ≤ wh ∧ wh ≤ 1) ↔ (wh = 0 ∨ wh = 1) := by
    constructor
    · rintro ⟨h1, h2⟩
      obtain ⟨n, hn, rfl⟩ := nI_of2 (x := wh) (M := 1) (n := 1) (by decide) (Int32.not_lt.mpr h1) h2
      rcases (show n = 0 ∨ n = 1 by omega) with rfl | rfl
      · exact Or.inl rfl
      · exact Or.inr rfl
    · rintro (rfl | rfl) <;> decide
  rcases hc with ⟨c1, c2, c3, rfl, rfl⟩ | ⟨c1, c2, c3, rfl, rfl⟩ | ⟨c1, c2, rfl, rfl⟩ | ⟨c1, rfl, rfl⟩ <;> rcases hr with ⟨d1, d2, d3, rfl, rfl⟩ | ⟨d1, d2, d3, rfl, rfl⟩ | ⟨d1, d2, rfl, rfl⟩ | ⟨d1, rfl, rfl⟩
  · exact absurd (w01.mp c2) (fun q => q.elim d2 d3)
  · exact a4 _ (sqi c1)
  · exact absurd d2 c3
  · exact absurd c1 d1
  · exact absurd c3 d2
  · exact absurd c3 d2
  · exact a3 _ (sqi c1)
  · exact absurd c1 d1
  · rfl
  · exact absurd (w01.mpr (Or.inr d3)) c2
  · exact absurd (w01.mpr (Or.inl d2)) c2
  · exact absurd c1 d1
  · exact absurd d1 c1
  · exact absurd d1 c1
  · exact absurd d1 c1
  · rfl
