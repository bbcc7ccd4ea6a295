/-! layer B: the sheets -/
def fB (z : CS) : (Nat → Int32) × (Nat → Int32) × (Nat → Nat → Int32) := (cs_I z 8, cs_I z 9, cs_S z)
def gB (z : RS2) : (Nat → Int32) × (Nat → Int32) × (Nat → Int32) := (rs_I z 7, rs_I z 8, rs_I z 9)
def rBk (k : Nat) (ln le : Int32) (f : Nat → Int32) (sz la : Int32) (g : Nat → Int32) : Prop := (ln = -1 ∧ sz = -1) ∨ ((0 ≤ ln ∧ ln ≤ 2) ∧ ln = la ∧ le = sz ∧ (0 ≤ le.toInt ∧ le.toInt ≤ 48) ∧ ∀ i : Nat, (i : Int) < le.toInt → f i = g (48 * k + i))
def rB (a : (Nat → Int32) × (Nat → Int32) × (Nat → Nat → Int32)) (b : (Nat → Int32) × (Nat → Int32) × (Nat → Int32)) : Prop := ∀ k, k < 4 → rBk k (a.1 k) (a.2.1 k) (a.2.2 k) (b.1 k) (b.2.1 k) b.2.2
def relB (zc : CS) (zr : RS2) : Prop := rB (fB zc) (gB zr)
theorem relB_of {zc u : CS} {zr v : RS2} (h1 : fB u = fB zc) (h2 : gB v = gB zr) (h : relB zc zr) : relB u v := by
  unfold relB; rw [h1, h2]; exact h
theorem relB_0 {x : Nat → Nat → Nat} : relB (z0C x) z0R := fun k _ => Or.inl ⟨rfl, rfl⟩
theorem frBC_trace {zc u : CS} {r : Int32} (h : pC_trace zc r u) : fB u = fB zc := by
  rcases h with ⟨_, rfl⟩
  all_goals rfl
theorem frBR_trace {zr u : RS2} {r : Int32} (h : pR_trace zr r u) : gB u = gB zr := by
  rcases h with ⟨_, rfl⟩
  all_goals rfl
theorem frBC_fault {zc u : CS} {r : Int32} (h : pC_fault zc r u) : fB u = fB zc := by
  rcases h with ⟨_, rfl⟩
  all_goals rfl
theorem frBR_fault {zr u : RS2} {r : Int32} (h : pR_fault zr r u) : gB u = gB zr := by
  rcases h with ⟨_, rfl⟩
  all_goals rfl
theorem frBC_told {zc u : CS} {a0 : Int32} {r : Int32} (h : pC_told zc a0 r u) : fB u = fB zc := by
  rcases h with ⟨_, _, _, rfl⟩ | ⟨_, _, _, rfl⟩ | ⟨_, _, _, rfl⟩ | ⟨_, _, _, rfl⟩ | ⟨_, _, _, rfl⟩ | ⟨_, _, _, rfl⟩ | ⟨_, _, _, rfl⟩ | ⟨_, _, _, rfl⟩ | ⟨_, _, _, _, _, _, _, _, _, _, rfl⟩ | ⟨_, _, _, rfl⟩ | ⟨_, _, _, rfl⟩ | ⟨_, _, _, rfl⟩ | ⟨_, _, _, rfl⟩ | ⟨_, _, _, rfl⟩ | ⟨_, _, _, rfl⟩ | ⟨_, _, _, rfl⟩ | ⟨_, _, _, rfl⟩ | ⟨_, _, _, _, _, _, _, _, _, _, rfl⟩
  all_goals rfl
theorem frBR_told {zr u : RS2} {a0 : Int32} {r : Int32} (h : pR_told zr a0 r u) : gB u = gB zr := by
  rcases h with ⟨_, _, rfl⟩ | ⟨_, _, rfl⟩ | ⟨_, _, rfl⟩ | ⟨_, _, rfl⟩ | ⟨_, _, rfl⟩ | ⟨_, _, _, rfl⟩ | ⟨_, _, _, rfl⟩ | ⟨_, _, rfl⟩ | ⟨_, _, _, rfl⟩ | ⟨_, _, _, rfl⟩ | ⟨_, _, _, _, _, _, _, _, _, rfl⟩
  all_goals rfl
theorem frBC_good {zc u : CS} {x : Int32} {y : Int32} {wh : Int32} {r : Int32} (h : pC_good zc x y wh r u) : fB u = fB zc := by
  rcases h with ⟨_, _, _, _, rfl⟩ | ⟨_, _, _, _, rfl⟩ | ⟨_, _, _, rfl⟩ | ⟨_, _, rfl⟩
  all_goals rfl
theorem frBR_good {zr u : RS2} {x : Int32} {y : Int32} {wh : Int32} {r : Int32} (h : pR_good zr x y wh r u) : gB u = gB zr := by
  rcases h with ⟨_, _, _, _, rfl⟩ | ⟨_, _, _, _, rfl⟩ | ⟨_, _, _, rfl⟩ | ⟨_, _, rfl⟩
  all_goals rfl
theorem frBC_money {zc u : CS} {t : Int32} {wh : Int32} {r : Int64} (h : pC_money zc t wh r u) : fB u = fB zc := by
  rcases h with ⟨_, _, rfl⟩ | ⟨_, _, _, _, _, rfl⟩ | ⟨_, _, _, _, _, rfl⟩ | ⟨_, _, _, _, _, rfl⟩ | ⟨_, _, _, _, _, rfl⟩ | ⟨_, _, _, _, _, rfl⟩ | ⟨_, _, _, _, _, rfl⟩ | ⟨_, _, _, _, _, _, _, _, _, _, rfl⟩
  all_goals rfl
theorem frBR_money {zr u : RS2} {t : Int32} {wh : Int32} {r : Int64} (h : pR_money zr t wh r u) : gB u = gB zr := by
  rcases h with ⟨_, _, rfl⟩ | ⟨_, _, _, _, _, rfl⟩ | ⟨_, _, _, _, _, rfl⟩ | ⟨_, _, _, _, _, rfl⟩ | ⟨_, _, _, _, _, rfl⟩ | ⟨_, _, _, _, _, rfl⟩ | ⟨_, _, _, _, _, rfl⟩ | ⟨_, _, _, _, _, _, _, _, _, _, rfl⟩
  all_goals rfl
theorem frBC_spend {zc u : CS} {t : Int32} {wh : Int32} {pn : Int32} {r : Int64} (h : pC_spend zc t wh pn r u) : fB u = fB zc := by
  rcases h with ⟨_, _, rfl⟩ | ⟨_, _, _, _, _, rfl⟩ | ⟨_, _, _, _, _, _, _, _, rfl⟩ | ⟨_, _, _, _, _, _, _, _, rfl⟩ | ⟨_, _, _, _, _, _, _, rfl⟩ | ⟨_, _, _, _, _, _, rfl⟩
  all_goals rfl
theorem frBR_spend {zr u : RS2} {t : Int32} {wh : Int32} {pn : Int32} {r : Int64} (h : pR_spend zr t wh pn r u) : gB u = gB zr := by
  rcases h with ⟨_, _, rfl⟩ | ⟨_, _, _, _, _, rfl⟩ | ⟨_, _, _, _, _, _, rfl⟩ | ⟨_, _, _, _, _, _, _, _, _, _, rfl⟩ | ⟨_, _, _, _, _, _, _, _, _, _, rfl⟩ | ⟨_, _, _, _, _, _, _, _, _, _, rfl⟩ | ⟨_, _, _, _, _, _, _, _, _, _, rfl⟩ | ⟨_, _, _, _, _, _, _, _, _, _, rfl⟩ | ⟨_, _, _, _, _, _, _, _, _, _, rfl⟩ | ⟨_, _, _, _, _, _, _, _, _, _, rfl⟩ | ⟨_, _, _, _, _, _, _, _, _, _, rfl⟩ | ⟨_, _, _, _, _, _, _, rfl⟩
  all_goals rfl
theorem frBC_debt {zc u : CS} {g : Int32} {r : Int64} (h : pC_debt zc g r u) : fB u = fB zc := by
  rcases h with ⟨_, _, rfl⟩ | ⟨_, _, _, _, _, rfl⟩ | ⟨_, _, _, _, _, rfl⟩ | ⟨_, _, _, _, _, rfl⟩
  all_goals rfl
theorem frBR_debt {zr u : RS2} {g : Int32} {r : Int64} (h : pR_debt zr g r u) : gB u = gB zr := by
  rcases h with ⟨_, _, rfl⟩ | ⟨_, _, _, _, rfl⟩
  all_goals rfl
theorem frBC_tell {zc u : CS} {g : Int32} {r : Int32} (h : pC_tell zc g r u) : fB u = fB zc := by
  rcases h with ⟨_, _, rfl⟩ | ⟨_, _, _, _, _, rfl⟩ | ⟨_, _, _, _, _, rfl⟩ | ⟨_, _, _, _, _, rfl⟩
  all_goals rfl
theorem frBR_tell {zr u : RS2} {g : Int32} {r : Int32} (h : pR_tell zr g r u) : gB u = gB zr := by
  rcases h with ⟨_, _, rfl⟩ | ⟨_, _, _, _, _, _, _, rfl⟩ | ⟨_, _, _, _, _, _, _, rfl⟩ | ⟨_, _, _, _, _, _, rfl⟩ | ⟨_, _, _, _, _, _, _, _, rfl⟩ | ⟨_, _, _, _, _, _, _, _, rfl⟩ | ⟨_, _, _, _, _, _, _, rfl⟩ | ⟨_, _, _, _, _, _, _, _, rfl⟩ | ⟨_, _, _, _, _, _, _, _, rfl⟩ | ⟨_, _, _, _, _, _, _, rfl⟩
  all_goals rfl
theorem frBC_greet {zc u : CS} {g : Int32} {r : Int32} (h : pC_greet zc g r u) : fB u = fB zc := by
  rcases h with ⟨_, _, rfl⟩ | ⟨_, _, _, _, _, rfl⟩ | ⟨_, _, _, _, _, rfl⟩ | ⟨_, _, _, _, _, rfl⟩
  all_goals rfl
theorem frBR_greet {zr u : RS2} {g : Int32} {r : Int32} (h : pR_greet zr g r u) : gB u = gB zr := by
  rcases h with ⟨_, _, rfl⟩ | ⟨_, _, _, _, _, _, _, rfl⟩ | ⟨_, _, _, _, _, _, _, rfl⟩ | ⟨_, _, _, _, _, _, _, rfl⟩ | ⟨_, _, _, _, _, _, _, rfl⟩ | ⟨_, _, _, _, _, rfl⟩
  all_goals rfl
theorem frBC_as {zc u : CS} {g : Int32} {k : Int32} {r : Int32} (h : pC_as zc g k r u) : fB u = fB zc := by
  rcases h with ⟨_, _, rfl⟩ | ⟨_, _, _, _, _, _, _, rfl⟩ | ⟨_, _, _, _, _, _, _, rfl⟩ | ⟨_, _, _, _, _, _, rfl⟩ | ⟨_, _, _, _, _, _, _, rfl⟩ | ⟨_, _, _, _, _, _, _, rfl⟩ | ⟨_, _, _, _, _, _, rfl⟩ | ⟨_, _, _, _, _, _, _, rfl⟩ | ⟨_, _, _, _, _, _, _, rfl⟩ | ⟨_, _, _, _, _, _, rfl⟩
  all_goals rfl
theorem frBR_as {zr u : RS2} {g : Int32} {k : Int32} {r : Int32} (h : pR_as zr g k r u) : gB u = gB zr := by
  rcases h with ⟨_, _, rfl⟩ | ⟨_, _, _, _, _, _, rfl⟩ | ⟨_, _, _, _, _, _, rfl⟩ | ⟨_, _, _, _, _, rfl⟩
  all_goals rfl
theorem frBC_taken {zc u : CS} {t : Int32} {wh : Int32} {r : Int32} (h : pC_taken zc t wh r u) : fB u = fB zc := by
  rcases h with ⟨_, _, rfl⟩ | ⟨_, _, _, _, _, _, rfl⟩ | ⟨_, _, _, _, _, _, rfl⟩ | ⟨_, _, _, _, _, _, rfl⟩ | ⟨_, _, _, _, _, _, _, rfl⟩ | ⟨_, _, _, _, _, _, _, rfl⟩ | ⟨_, _, _, _, _, _, rfl⟩ | ⟨_, _, _, _, _, _, _, _, _, _, rfl⟩ | ⟨_, _, _, _, _, _, rfl⟩ | ⟨_, _, _, _, _, _, rfl⟩ | ⟨_, _, _, _, _, _, rfl⟩ | ⟨_, _, _, _, _, _, _, rfl⟩ | ⟨_, _, _, _, _, _, _, rfl⟩ | ⟨_, _, _, _, _, _, rfl⟩ | ⟨_, _, _, _, _, _, _, _, _, _, rfl⟩ | ⟨_, _, _, _, _, _, rfl⟩ | ⟨_, _, _, _, _, _, rfl⟩ | ⟨_, _, _, _, _, _, rfl⟩ | ⟨_, _, _, _, _, _, _, rfl⟩ | ⟨_, _, _, _, _, _, _, rfl⟩ | ⟨_, _, _, _, _, _, rfl⟩ | ⟨_, _, _, _, _, _, _, _, _, _, rfl⟩
  all_goals rfl
theorem frBR_taken {zr u : RS2} {t : Int32} {wh : Int32} {r : Int32} (h : pR_taken zr t wh r u) : gB u = gB zr := by
  rcases h with ⟨_, _, rfl⟩ | ⟨_, _, _, _, _, rfl⟩ | ⟨_, _, _, _, _, rfl⟩ | ⟨_, _, _, _, _, rfl⟩ | ⟨_, _, _, _, _, _, rfl⟩ | ⟨_, _, _, _, _, _, rfl⟩ | ⟨_, _, _, _, _, rfl⟩ | ⟨_, _, _, _, _, _, _, _, _, rfl⟩
  all_goals rfl
theorem frBC_settle {zc u : CS} {t : Int32} {r : Int64} (h : pC_settle zc t r u) : fB u = fB zc := by
  rcases h with ⟨_, _, rfl⟩ | ⟨_, _, _, _, _, _, rfl⟩ | ⟨_, _, _, _, _, _, rfl⟩ | ⟨_, _, _, _, _, _, rfl⟩ | ⟨_, _, _, _, _, _, rfl⟩ | ⟨_, _, _, _, _, _, rfl⟩ | ⟨_, _, _, _, _, _, rfl⟩
  all_goals rfl
theorem frBR_settle {zr u : RS2} {t : Int32} {r : Int64} (h : pR_settle zr t r u) : gB u = gB zr := by
  rcases h with ⟨_, _, rfl⟩ | ⟨_, _, _, _, _, _, _, _, _, _, _, _, rfl⟩ | ⟨_, _, _, _, _, _, _, _, _, _, _, _, rfl⟩ | ⟨_, _, _, _, _, _, _, _, _, _, _, _, rfl⟩ | ⟨_, _, _, _, _, _, _, _, _, _, _, _, rfl⟩ | ⟨_, _, _, _, _, _, _, _, _, _, _, _, rfl⟩ | ⟨_, _, _, _, _, _, _, _, _, _, _, _, rfl⟩ | ⟨_, _, _, _, _, _, _, _, _, _, _, _, rfl⟩ | ⟨_, _, _, _, _, _, _, _, _, _, _, _, rfl⟩ | ⟨_, _, _, _, _, _, _, _, _, _, _, _, rfl⟩ | ⟨_, _, _, _, _, _, _, _, _, _, _, _, rfl⟩ | ⟨_, _, _, _, _, _, _, _, _, _, _, _, rfl⟩ | ⟨_, _, _, _, _, _, _, _, _, _, _, _, rfl⟩ | ⟨_, _, _, _, _, _, _, _, _, _, _, _, rfl⟩ | ⟨_, _, _, _, _, _, _, _, _, _, _, _, rfl⟩ | ⟨_, _, _, _, _, _, _, _, _, _, _, _, rfl⟩ | ⟨_, _, _, _, _, _, _, _, _, _, _, _, rfl⟩ | ⟨_, _, _, _, _, rfl⟩
  all_goals rfl
theorem frBC_about {zc u : CS} {pp : Int32} {wh : Int32} {r : Int32} (h : pC_about zc pp wh r u) : fB u = fB zc := by
  rcases h with ⟨_, _, rfl⟩ | ⟨_, _, _, _, _, _, rfl⟩ | ⟨_, _, _, _, _, _, rfl⟩ | ⟨_, _, _, _, _, _, rfl⟩ | ⟨_, _, _, _, _, _, rfl⟩ | ⟨_, _, _, _, _, _, rfl⟩ | ⟨_, _, _, _, _, _, rfl⟩ | ⟨_, _, _, _, _, _, rfl⟩ | ⟨_, _, _, _, _, _, _, _, _, _, _, _, rfl⟩ | ⟨_, _, _, _, _, _, rfl⟩ | ⟨_, _, _, _, _, _, rfl⟩ | ⟨_, _, _, _, _, _, rfl⟩ | ⟨_, _, _, _, _, _, rfl⟩ | ⟨_, _, _, _, _, _, rfl⟩ | ⟨_, _, _, _, _, _, rfl⟩ | ⟨_, _, _, _, _, _, rfl⟩ | ⟨_, _, _, _, _, _, _, _, _, _, _, _, rfl⟩
  all_goals rfl
theorem frBR_about {zr u : RS2} {pp : Int32} {wh : Int32} {r : Int32} (h : pR_about zr pp wh r u) : gB u = gB zr := by
  rcases h with ⟨_, _, rfl⟩ | ⟨_, _, _, _, _, rfl⟩ | ⟨_, _, _, _, _, rfl⟩ | ⟨_, _, _, _, _, rfl⟩ | ⟨_, _, _, _, _, rfl⟩ | ⟨_, _, _, _, _, rfl⟩ | ⟨_, _, _, _, _, _, _, rfl⟩ | ⟨_, _, _, _, _, rfl⟩ | ⟨_, _, _, _, _, _, _, _, _, _, _, rfl⟩
  all_goals rfl
theorem frBC_gang {zc u : CS} {k : Int32} {r : Int32} (h : pC_gang zc k r u) : fB u = fB zc := by
  rcases h with ⟨_, _, _, _, _, _, rfl⟩ | ⟨_, _, _, _, _, _, rfl⟩ | ⟨_, _, _, _, _, _, rfl⟩ | ⟨_, _, _, rfl⟩ | ⟨_, _, rfl⟩
  all_goals rfl
theorem frBR_gang {zr u : RS2} {k : Int32} {r : Int32} (h : pR_gang zr k r u) : gB u = gB zr := by
  rcases h with ⟨_, _, _, _, rfl⟩ | ⟨_, _, _, rfl⟩ | ⟨_, _, rfl⟩
  all_goals rfl
theorem frBC_parcel {zc u : CS} {t : Int32} {tn : Int32} {gd : Int32} {r : Int32} (h : pC_parcel zc t tn gd r u) : fB u = fB zc := by
  rcases h with ⟨_, _, rfl⟩ | ⟨_, _, _, _, _, rfl⟩ | ⟨_, _, _, _, _, _, _, _, _, _, rfl⟩ | ⟨_, _, _, _, _, _, _, _, rfl⟩ | ⟨_, _, _, _, _, _, _, rfl⟩ | ⟨_, _, _, _, _, _, rfl⟩
  all_goals rfl
theorem frBR_parcel {zr u : RS2} {t : Int32} {tn : Int32} {gd : Int32} {r : Int32} (h : pR_parcel zr t tn gd r u) : gB u = gB zr := by
  rcases h with ⟨_, _, rfl⟩ | ⟨_, _, _, _, _, rfl⟩ | ⟨_, _, _, _, _, _, _, _, _, rfl⟩ | ⟨_, _, _, _, _, _, _, _, rfl⟩ | ⟨_, _, _, _, _, _, _, rfl⟩ | ⟨_, _, _, _, _, _, rfl⟩
  all_goals rfl
theorem frBC_pitch {zc u : CS} {x : Int32} {y : Int32} {xx : Int32} {yy : Int32} {tn : Int32} {r : Int32} (h : pC_pitch zc x y xx yy tn r u) : fB u = fB zc := by
  rcases h with ⟨_, _, rfl⟩ | ⟨_, _, _, _, rfl⟩ | ⟨_, _, _, _, _, rfl⟩ | ⟨_, _, _, _, _, _, _, _, _, _, rfl⟩ | ⟨_, _, _, _, _, _, _, _, rfl⟩ | ⟨_, _, _, _, _, _, _, rfl⟩ | ⟨_, _, _, _, _, _, rfl⟩ | ⟨_, _, _, rfl⟩
  all_goals rfl
theorem frBR_pitch {zr u : RS2} {x : Int32} {y : Int32} {xx : Int32} {yy : Int32} {tn : Int32} {r : Int32} (h : pR_pitch zr x y xx yy tn r u) : gB u = gB zr := by
  rcases h with ⟨_, _, rfl⟩ | ⟨_, _, _, _, rfl⟩ | ⟨_, _, _, _, _, rfl⟩ | ⟨_, _, _, _, _, _, _, _, _, rfl⟩ | ⟨_, _, _, _, _, _, _, _, rfl⟩ | ⟨_, _, _, _, _, _, _, _, _, rfl⟩ | ⟨_, _, _, _, _, _, rfl⟩ | ⟨_, _, _, rfl⟩
  all_goals rfl
theorem frBC_auction {zc u : CS} {pp : Int32} {sv : Int32} {r : Int32} (h : pC_auction zc pp sv r u) : fB u = fB zc := by
  rcases h with ⟨_, _, rfl⟩ | ⟨_, _, _, _, _, _, _, _, rfl⟩ | ⟨_, _, _, _, _, _, _, rfl⟩ | ⟨_, _, _, _, _, _, _, rfl⟩ | ⟨_, _, _, _, _, _, _, rfl⟩ | ⟨_, _, _, _, _, _, rfl⟩ | ⟨_, _, _, _, _, _, rfl⟩
  all_goals rfl
theorem frBR_auction {zr u : RS2} {pp : Int32} {sv : Int32} {r : Int32} (h : pR_auction zr pp sv r u) : gB u = gB zr := by
  rcases h with ⟨_, _, rfl⟩ | ⟨_, _, _, _, _, _, _, _, rfl⟩ | ⟨_, _, _, _, _, _, _, _, _, rfl⟩ | ⟨_, _, _, _, _, _, _, _, _, rfl⟩ | ⟨_, _, _, _, _, rfl⟩
  all_goals rfl
theorem frBC_bid {zc u : CS} {g : Int32} {sv : Int32} {r : Int32} (h : pC_bid zc g sv r u) : fB u = fB zc := by
  rcases h with ⟨_, _, rfl⟩ | ⟨_, _, _, _, _, rfl⟩ | ⟨_, _, _, _, _, _, _, _, _, _, _, rfl⟩ | ⟨_, _, _, _, _, _, _, _, _, _, _, rfl⟩ | ⟨_, _, _, _, _, _, _, _, _, _, rfl⟩ | ⟨_, _, _, _, _, _, _, _, rfl⟩ | ⟨_, _, _, _, _, _, _, _, _, _, _, rfl⟩ | ⟨_, _, _, _, _, _, _, _, _, _, _, rfl⟩ | ⟨_, _, _, _, _, _, _, _, _, _, rfl⟩ | ⟨_, _, _, _, _, _, _, _, rfl⟩ | ⟨_, _, _, _, _, _, _, _, _, _, _, rfl⟩ | ⟨_, _, _, _, _, _, _, _, _, _, _, rfl⟩ | ⟨_, _, _, _, _, _, _, _, _, _, rfl⟩ | ⟨_, _, _, _, _, _, _, _, rfl⟩ | ⟨_, _, _, _, _, _, _, _, _, rfl⟩ | ⟨_, _, _, _, _, _, _, _, _, _, _, rfl⟩ | ⟨_, _, _, _, _, _, _, _, _, _, _, rfl⟩ | ⟨_, _, _, _, _, _, _, _, _, _, rfl⟩ | ⟨_, _, _, _, _, _, _, _, rfl⟩ | ⟨_, _, _, _, _, _, _, _, _, rfl⟩ | ⟨_, _, _, _, _, _, _, _, _, _, _, rfl⟩ | ⟨_, _, _, _, _, _, _, _, _, _, _, rfl⟩ | ⟨_, _, _, _, _, _, _, _, _, _, rfl⟩ | ⟨_, _, _, _, _, _, _, _, rfl⟩ | ⟨_, _, _, _, _, _, _, _, _, rfl⟩ | ⟨_, _, _, _, _, _, _, _, _, _, _, rfl⟩ | ⟨_, _, _, _, _, _, _, _, _, _, _, rfl⟩ | ⟨_, _, _, _, _, _, _, _, _, _, rfl⟩ | ⟨_, _, _, _, _, _, _, _, rfl⟩
  all_goals rfl
theorem frBR_bid {zr u : RS2} {g : Int32} {sv : Int32} {r : Int32} (h : pR_bid zr g sv r u) : gB u = gB zr := by
  rcases h with ⟨_, _, rfl⟩ | ⟨_, _, _, _, _, _, _, _, rfl⟩ | ⟨_, _, _, _, _, _, _, _, _, _, rfl⟩ | ⟨_, _, _, _, _, _, _, _, _, _, rfl⟩ | ⟨_, _, _, _, _, _, _, _, _, rfl⟩ | ⟨_, _, _, _, _, _, _, rfl⟩ | ⟨_, _, _, _, _, _, _, _, rfl⟩ | ⟨_, _, _, _, _, _, _, _, _, _, rfl⟩ | ⟨_, _, _, _, _, _, _, _, _, _, rfl⟩ | ⟨_, _, _, _, _, _, _, _, _, rfl⟩ | ⟨_, _, _, _, _, _, _, rfl⟩ | ⟨_, _, _, _, _, rfl⟩
  all_goals rfl
theorem frBC_strike {zc u : CS} {r : Int32} (h : pC_strike zc r u) : fB u = fB zc := by
  rcases h with ⟨_, _, rfl⟩ | ⟨_, _, _, rfl⟩ | ⟨_, _, _, _, _, _, _, _, _, _, _, rfl⟩ | ⟨_, _, _, _, _, rfl⟩ | ⟨_, _, _, _, _, _, _, _, _, _, _, rfl⟩ | ⟨_, _, _, _, _, rfl⟩ | ⟨_, _, _, _, _, _, _, _, _, _, _, rfl⟩ | ⟨_, _, _, _, _, rfl⟩
  all_goals rfl
theorem frBR_strike {zr u : RS2} {r : Int32} (h : pR_strike zr r u) : gB u = gB zr := by
  rcases h with ⟨_, _, _, rfl⟩ | ⟨_, _, _, _, _, _, _, _, _, rfl⟩ | ⟨_, _, _, _, _, _, _, _, rfl⟩ | ⟨_, _, _, _, _, _, _, rfl⟩
  all_goals rfl
theorem frBC_foretold {zc u : CS} {pp : Int32} {wh : Int32} {r : Int64} (h : pC_foretold zc pp wh r u) : fB u = fB zc := by
  rcases h with ⟨_, _, rfl⟩ | ⟨_, _, _, _, _, _, rfl⟩ | ⟨_, _, _, _, _, _, rfl⟩ | ⟨_, _, _, _, _, rfl⟩
  all_goals rfl
theorem frBR_foretold {zr u : RS2} {pp : Int32} {wh : Int32} {r : Int64} (h : pR_foretold zr pp wh r u) : gB u = gB zr := by
  rcases h with ⟨_, _, rfl⟩ | ⟨_, _, _, _, _, _, rfl⟩ | ⟨_, _, _, _, _, _, rfl⟩ | ⟨_, _, _, _, _, rfl⟩
  all_goals rfl
theorem frBC_cell {zc u : CS} {k : Int32} {ix : Int32} {ln : Int32} {r : Int64} (h : pC_cell zc k ix ln r u) : fB u = fB zc := by
  rcases h with ⟨_, _, rfl⟩ | ⟨_, _, _, _, _, _, rfl⟩ | ⟨_, _, _, _, _, _, _, _, rfl⟩ | ⟨_, _, _, _, _, _, _, _, rfl⟩ | ⟨_, _, _, _, _, _, _, rfl⟩ | ⟨_, _, _, _, _, rfl⟩
  all_goals rfl
theorem frBR_cell {zr u : RS2} {k : Int32} {i : Int32} {ln : Int32} {r : Int64} (h : pR_cell zr k i ln r u) : gB u = gB zr := by
  rcases h with ⟨_, _, rfl⟩ | ⟨_, _, _, _, _, _, _, _, _, _, rfl⟩ | ⟨_, _, _, _, _, _, _, rfl⟩ | ⟨_, _, _, _, _, _, _, _, _, _, _, rfl⟩ | ⟨_, _, _, _, _, _, _, _, rfl⟩ | ⟨_, _, _, _, _, _, _, rfl⟩ | ⟨_, _, _, _, _, rfl⟩
  all_goals rfl
theorem frBC_find {zc u : CS} {x : Int32} {y : Int32} {lo : Int32} {hi : Int32} {r : Int32} (h : pC_find zc x y lo hi r u) : fB u = fB zc := by
  rcases h with ⟨_, _, _, rfl⟩ | ⟨_, _, _, _, rfl⟩ | ⟨_, _, _, _, _, _, _, _, _, _, _, _, _, _, _, rfl⟩ | ⟨_, _, _, _, _, rfl⟩ | ⟨_, _, rfl⟩
  all_goals rfl
theorem frBR_find {zr u : RS2} {x : Int32} {y : Int32} {lo : Int32} {hi : Int32} {r : Int32} (h : pR_find zr x y lo hi r u) : gB u = gB zr := by
  rcases h with ⟨_, _, _, rfl⟩ | ⟨_, _, _, _, _, _, _, _, _, _, _, _, _, _, _, _, _, _, _, rfl⟩ | ⟨_, _, _, _, rfl⟩ | ⟨_, _, rfl⟩
  all_goals rfl
theorem frBC_rise {zc u : CS} {dd : Int32} {r : Int32} (h : pC_rise zc dd r u) : fB u = fB zc := by
  rcases h with ⟨_, _, _, _, _, _, _, _, _, _, rfl⟩ | ⟨_, _, _, rfl⟩ | ⟨_, _, rfl⟩
  all_goals rfl
theorem frBR_rise {zr u : RS2} {dd : Int32} {r : Int32} (h : pR_rise zr dd r u) : gB u = gB zr := by
  rcases h with ⟨_, _, _, _, _, _, _, _, _, _, _, rfl⟩ | ⟨_, _, _, rfl⟩ | ⟨_, _, rfl⟩
  all_goals rfl
theorem frBC_suspects {zc u : CS} {r : Int32} (h : pC_suspects zc r u) : fB u = fB zc := by
  rcases h with ⟨_, rfl⟩
  all_goals rfl
theorem frBR_suspects {zr u : RS2} {r : Int32} (h : pR_suspects zr r u) : gB u = gB zr := by
  rcases h with ⟨_, rfl⟩
  all_goals rfl
theorem frBC_suspect {zc u : CS} {ix : Int32} {r : Int32} (h : pC_suspect zc ix r u) : fB u = fB zc := by
  rcases h with ⟨_, _, rfl⟩ | ⟨_, _, _, _, _, rfl⟩
  all_goals rfl
theorem frBR_suspect {zr u : RS2} {ix : Int32} {r : Int32} (h : pR_suspect zr ix r u) : gB u = gB zr := by
  rcases h with ⟨_, _, rfl⟩ | ⟨_, _, _, _, _, rfl⟩
  all_goals rfl
theorem frBC_skill {zc u : CS} {g : Int32} {wh : Int32} {r : Int64} (h : pC_skill zc g wh r u) : fB u = fB zc := by
  rcases h with ⟨_, _, rfl⟩ | ⟨_, _, _, _, _, _, _, _, _, rfl⟩ | ⟨_, _, _, _, _, _, _, _, _, rfl⟩ | ⟨_, _, _, _, _, _, _, _, _, rfl⟩ | ⟨_, _, _, _, _, _, _, _, _, rfl⟩ | ⟨_, _, _, _, _, rfl⟩
  all_goals rfl
theorem frBR_skill {zr u : RS2} {g : Int32} {wh : Int32} {r : Int64} (h : pR_skill zr g wh r u) : gB u = gB zr := by
  rcases h with ⟨_, _, rfl⟩ | ⟨_, _, _, _, _, _, _, _, _, rfl⟩ | ⟨_, _, _, _, _, _, _, _, _, rfl⟩ | ⟨_, _, _, _, _, _, rfl⟩ | ⟨_, _, _, _, _, rfl⟩
  all_goals rfl
theorem frBC_chart {zc u : CS} {k : Int32} {ln : Int32} {ix : Int32} {n : Int32} {sv : Int32} {r : Int32} (h : pC_chart zc k ln ix n sv r u) : fB u = fB zc := by
  rcases h with ⟨_, _, rfl⟩ | ⟨_, _, _, _, _, _, _, _, _, _, _, _, _, _, _, _, _, _, rfl⟩ | ⟨_, _, _, _, _, _, _, _, _, _, _, _, _, _, _, _, _, _, _, _, _, _, _, _, _, _, _, _, _, rfl⟩ | ⟨_, _, _, _, _, _, _, _, _, _, _, _, _, _, _, _, _, _, rfl⟩ | ⟨_, _, _, _, _, _, _, rfl⟩ | ⟨_, _, _, _, _, _, rfl⟩ | ⟨_, _, _, _, _, rfl⟩
  all_goals rfl
theorem frBR_chart {zr u : RS2} {k : Int32} {ln : Int32} {ix : Int32} {nq : Int32} {sv : Int32} {r : Int32} (h : pR_chart zr k ln ix nq sv r u) : gB u = gB zr := by
  rcases h with ⟨_, _, rfl⟩ | ⟨_, _, _, _, _, _, _, _, _, _, rfl⟩ | ⟨_, _, _, _, _, _, _, _, _, _, _, _, _, _, _, _, _, _, _, _, _, _, _, _, _, _, _, _, _, _, _, _, rfl⟩ | ⟨_, _, _, _, _, _, _, _, _, _, _, _, _, _, _, _, _, _, _, _, _, _, _, _, _, _, rfl⟩ | ⟨_, _, _, _, _, _, _, _, _, _, _, rfl⟩ | ⟨_, _, _, _, _, _, _, _, _, rfl⟩ | ⟨_, _, _, _, _, _, _, _, rfl⟩ | ⟨_, _, _, _, _, _, _, _, _, _, _, rfl⟩ | ⟨_, _, _, _, _, _, _, _, _, _, _, _, _, _, _, _, _, _, _, _, _, _, _, _, _, _, _, _, _, _, _, _, _, rfl⟩ | ⟨_, _, _, _, _, _, _, _, _, _, _, _, _, _, _, _, _, _, _, _, _, _, _, _, _, _, _, rfl⟩ | ⟨_, _, _, _, _, _, _, _, _, _, _, _, rfl⟩ | ⟨_, _, _, _, _, _, _, _, _, _, rfl⟩ | ⟨_, _, _, _, _, _, _, _, _, rfl⟩ | ⟨_, _, _, _, _, _, _, _, rfl⟩ | ⟨_, _, _, _, _, _, rfl⟩ | ⟨_, _, _, _, _, rfl⟩
  all_goals rfl
theorem stB_trace {zc u : CS} {zr w9 : RS2} {r r' : Int32} (h : relB zc zr) (hc : pC_trace zc r u) (hr : pR_trace zr r' w9) : relB u w9 := relB_of (frBC_trace hc) (frBR_trace hr) h
theorem stB_fault {zc u : CS} {zr w9 : RS2} {r r' : Int32} (h : relB zc zr) (hc : pC_fault zc r u) (hr : pR_fault zr r' w9) : relB u w9 := relB_of (frBC_fault hc) (frBR_fault hr) h
theorem stB_told {zc u : CS} {zr w9 : RS2} {a0 : Int32} {r r' : Int32} (h : relB zc zr) (hc : pC_told zc a0 r u) (hr : pR_told zr a0 r' w9) : relB u w9 := relB_of (frBC_told hc) (frBR_told hr) h
theorem stB_good {zc u : CS} {zr w9 : RS2} {x : Int32} {y : Int32} {wh : Int32} {r r' : Int32} (h : relB zc zr) (hc : pC_good zc x y wh r u) (hr : pR_good zr x y wh r' w9) : relB u w9 := relB_of (frBC_good hc) (frBR_good hr) h
theorem stB_money {zc u : CS} {zr w9 : RS2} {t : Int32} {wh : Int32} {r r' : Int64} (h : relB zc zr) (hc : pC_money zc t wh r u) (hr : pR_money zr t wh r' w9) : relB u w9 := relB_of (frBC_money hc) (frBR_money hr) h
theorem stB_spend {zc u : CS} {zr w9 : RS2} {t : Int32} {wh : Int32} {pn : Int32} {r r' : Int64} (h : relB zc zr) (hc : pC_spend zc t wh pn r u) (hr : pR_spend zr t wh pn r' w9) : relB u w9 := relB_of (frBC_spend hc) (frBR_spend hr) h
theorem stB_debt {zc u : CS} {zr w9 : RS2} {g : Int32} {r r' : Int64} (h : relB zc zr) (hc : pC_debt zc g r u) (hr : pR_debt zr g r' w9) : relB u w9 := relB_of (frBC_debt hc) (frBR_debt hr) h
theorem stB_tell {zc u : CS} {zr w9 : RS2} {g : Int32} {r r' : Int32} (h : relB zc zr) (hc : pC_tell zc g r u) (hr : pR_tell zr g r' w9) : relB u w9 := relB_of (frBC_tell hc) (frBR_tell hr) h
theorem stB_greet {zc u : CS} {zr w9 : RS2} {g : Int32} {r r' : Int32} (h : relB zc zr) (hc : pC_greet zc g r u) (hr : pR_greet zr g r' w9) : relB u w9 := relB_of (frBC_greet hc) (frBR_greet hr) h
theorem stB_as {zc u : CS} {zr w9 : RS2} {g : Int32} {k : Int32} {r r' : Int32} (h : relB zc zr) (hc : pC_as zc g k r u) (hr : pR_as zr g k r' w9) : relB u w9 := relB_of (frBC_as hc) (frBR_as hr) h
theorem stB_taken {zc u : CS} {zr w9 : RS2} {t : Int32} {wh : Int32} {r r' : Int32} (h : relB zc zr) (hc : pC_taken zc t wh r u) (hr : pR_taken zr t wh r' w9) : relB u w9 := relB_of (frBC_taken hc) (frBR_taken hr) h
theorem stB_settle {zc u : CS} {zr w9 : RS2} {t : Int32} {r r' : Int64} (h : relB zc zr) (hc : pC_settle zc t r u) (hr : pR_settle zr t r' w9) : relB u w9 := relB_of (frBC_settle hc) (frBR_settle hr) h
theorem stB_about {zc u : CS} {zr w9 : RS2} {pp : Int32} {wh : Int32} {r r' : Int32} (h : relB zc zr) (hc : pC_about zc pp wh r u) (hr : pR_about zr pp wh r' w9) : relB u w9 := relB_of (frBC_about hc) (frBR_about hr) h
theorem stB_gang {zc u : CS} {zr w9 : RS2} {k : Int32} {r r' : Int32} (h : relB zc zr) (hc : pC_gang zc k r u) (hr : pR_gang zr k r' w9) : relB u w9 := relB_of (frBC_gang hc) (frBR_gang hr) h
theorem stB_parcel {zc u : CS} {zr w9 : RS2} {t : Int32} {tn : Int32} {gd : Int32} {r r' : Int32} (h : relB zc zr) (hc : pC_parcel zc t tn gd r u) (hr : pR_parcel zr t tn gd r' w9) : relB u w9 := relB_of (frBC_parcel hc) (frBR_parcel hr) h
theorem stB_pitch {zc u : CS} {zr w9 : RS2} {x : Int32} {y : Int32} {xx : Int32} {yy : Int32} {tn : Int32} {r r' : Int32} (h : relB zc zr) (hc : pC_pitch zc x y xx yy tn r u) (hr : pR_pitch zr x y xx yy tn r' w9) : relB u w9 := relB_of (frBC_pitch hc) (frBR_pitch hr) h
theorem stB_auction {zc u : CS} {zr w9 : RS2} {pp : Int32} {sv : Int32} {r r' : Int32} (h : relB zc zr) (hc : pC_auction zc pp sv r u) (hr : pR_auction zr pp sv r' w9) : relB u w9 := relB_of (frBC_auction hc) (frBR_auction hr) h
theorem stB_bid {zc u : CS} {zr w9 : RS2} {g : Int32} {sv : Int32} {r r' : Int32} (h : relB zc zr) (hc : pC_bid zc g sv r u) (hr : pR_bid zr g sv r' w9) : relB u w9 := relB_of (frBC_bid hc) (frBR_bid hr) h
theorem stB_strike {zc u : CS} {zr w9 : RS2} {r r' : Int32} (h : relB zc zr) (hc : pC_strike zc r u) (hr : pR_strike zr r' w9) : relB u w9 := relB_of (frBC_strike hc) (frBR_strike hr) h
theorem stB_foretold {zc u : CS} {zr w9 : RS2} {pp : Int32} {wh : Int32} {r r' : Int64} (h : relB zc zr) (hc : pC_foretold zc pp wh r u) (hr : pR_foretold zr pp wh r' w9) : relB u w9 := relB_of (frBC_foretold hc) (frBR_foretold hr) h
theorem stB_cell {zc u : CS} {zr w9 : RS2} {k : Int32} {ix : Int32} {ln : Int32} {r r' : Int64} (h : relB zc zr) (hc : pC_cell zc k ix ln r u) (hr : pR_cell zr k ix ln r' w9) : relB u w9 := relB_of (frBC_cell hc) (frBR_cell hr) h
theorem stB_find {zc u : CS} {zr w9 : RS2} {x : Int32} {y : Int32} {lo : Int32} {hi : Int32} {r r' : Int32} (h : relB zc zr) (hc : pC_find zc x y lo hi r u) (hr : pR_find zr x y lo hi r' w9) : relB u w9 := relB_of (frBC_find hc) (frBR_find hr) h
theorem stB_rise {zc u : CS} {zr w9 : RS2} {dd : Int32} {r r' : Int32} (h : relB zc zr) (hc : pC_rise zc dd r u) (hr : pR_rise zr dd r' w9) : relB u w9 := relB_of (frBC_rise hc) (frBR_rise hr) h
theorem stB_suspects {zc u : CS} {zr w9 : RS2} {r r' : Int32} (h : relB zc zr) (hc : pC_suspects zc r u) (hr : pR_suspects zr r' w9) : relB u w9 := relB_of (frBC_suspects hc) (frBR_suspects hr) h
theorem stB_suspect {zc u : CS} {zr w9 : RS2} {ix : Int32} {r r' : Int32} (h : relB zc zr) (hc : pC_suspect zc ix r u) (hr : pR_suspect zr ix r' w9) : relB u w9 := relB_of (frBC_suspect hc) (frBR_suspect hr) h
theorem stB_skill {zc u : CS} {zr w9 : RS2} {g : Int32} {wh : Int32} {r r' : Int64} (h : relB zc zr) (hc : pC_skill zc g wh r u) (hr : pR_skill zr g wh r' w9) : relB u w9 := relB_of (frBC_skill hc) (frBR_skill hr) h
theorem stB_chart {zc u : CS} {zr w9 : RS2} {k : Int32} {ln : Int32} {ix : Int32} {n : Int32} {sv : Int32} {r r' : Int32} (h : relB zc zr) (hc : pC_chart zc k ln ix n sv r u) (hr : pR_chart zr k ln ix n sv r' w9) : relB u w9 := relB_of (frBC_chart hc) (frBR_chart hr) h
theorem zfill_in {b : Nat} {f : Nat → Int32} : ∀ {n i : Nat}, i < n → zfill b f n (b + i) = 0
  | n + 1, i, h => by
    rw [zfill]
    by_cases e : i = n
    · subst e; exact pk_us
    · rw [pk_un (by omega)]; exact zfill_in (by omega)
theorem zfill_out {b : Nat} {f : Nat → Int32} : ∀ {n j : Nat}, ¬ (b ≤ j ∧ j < b + n) → zfill b f n j = f j
  | 0, j, h => rfl
  | n + 1, j, h => by rw [zfill, pk_un (by omega)]; exact zfill_out (by omega)
theorem cpf_in {g : Nat → Int32} {b : Nat} {f : Nat → Int32} : ∀ {n i : Nat}, i < n → cpf g b f n i = g (b + i)
  | n + 1, i, h => by
    rw [cpf]
    by_cases e : i = n
    · subst e; exact pk_us
    · rw [pk_un e]; exact cpf_in (by omega)
theorem cpt_in {h : Nat → Int32} {b : Nat} {f : Nat → Int32} : ∀ {n i : Nat}, i < n → cpt h b f n (b + i) = h i
  | n + 1, i, hi => by
    rw [cpt]
    by_cases e : i = n
    · subst e; exact pk_us
    · rw [pk_un (by omega)]; exact cpt_in (by omega)
theorem cpt_out {h : Nat → Int32} {b : Nat} {f : Nat → Int32} : ∀ {n j : Nat}, ¬ (b ≤ j ∧ j < b + n) → cpt h b f n j = f j
  | 0, j, _ => rfl
  | n + 1, j, hj => by rw [cpt, pk_un (by omega)]; exact cpt_out (by omega)
theorem rB_set {a a' : (Nat → Int32) × (Nat → Int32) × (Nat → Nat → Int32)} {b b' : (Nat → Int32) × (Nat → Int32) × (Nat → Int32)} (h : rB a b) (js : Nat) (ho : ∀ k, k ≠ js → a'.1 k = a.1 k ∧ a'.2.1 k = a.2.1 k ∧ a'.2.2 k = a.2.2 k ∧ b'.1 k = b.1 k ∧ b'.2.1 k = b.2.1 k) (hc : ∀ j, ¬ (48 * js ≤ j ∧ j < 48 * js + 48) → b'.2.2 j = b.2.2 j) (hk : rBk js (a'.1 js) (a'.2.1 js) (a'.2.2 js) (b'.1 js) (b'.2.1 js) b'.2.2) : rB a' b' := by
  intro k hk4
  by_cases e : k = js
  · subst e; exact hk
  · obtain ⟨e1, e2, e3, e4, e5⟩ := ho k e
    rw [e1, e2, e3, e4, e5]
    rcases h k hk4 with h1 | ⟨h1, h2, h3, h4, h5⟩
    · exact Or.inl h1
    · exact Or.inr ⟨h1, h2, h3, h4, fun i hi => by rw [h5 i hi]; exact (hc _ (by omega)).symm⟩
theorem hold1 {ix le : Int32} (hl : 0 ≤ le.toInt ∧ le.toInt ≤ 48) : (0 ≤ ix ∧ (0 : Int32) ≤ 1 ∧ ix.toInt64 + (1 : Int32).toInt64 ≤ le.toInt64) ↔ (0 ≤ ix.toInt64 ∧ ix.toInt64 ≤ le.toInt64 - 1) := by
  have e1 : (1 : Int32).toInt64 = 1 := by decide
  have l1 := Int32.toInt_lt ix
  have l2 := Int32.le_toInt ix
  have z0 : (0 : Int32).toInt = 0 := by decide
  have z1 : (0 : Int64).toInt = 0 := by decide
  have z2 : (1 : Int64).toInt = 1 := by decide
  rw [e1, Int64.le_iff_toInt_le, Int64.le_iff_toInt_le, Int64.le_iff_toInt_le, Int32.le_iff_toInt_le, Int64.toInt_add, Int64.toInt_sub, Int32.toInt_toInt64, Int32.toInt_toInt64, z0, z1, z2, Int.bmod_eq_of_le (by omega) (by omega), Int.bmod_eq_of_le (by omega) (by omega)]
  constructor
  · rintro ⟨h1, _, h2⟩; exact ⟨h1, by omega⟩
  · rintro ⟨h1, h2⟩; exact ⟨h1, by decide, by omega⟩
theorem relB_at {zc : CS} {zr : RS2} (h : relB zc zr) {k : Nat} (hk : k < 4) : rBk k (cs_I zc 8 k) (cs_I zc 9 k) (cs_S zc k) (rs_I zr 7 k) (rs_I zr 8 k) (rs_I zr 9) := h k hk
theorem rB_neg {k : Nat} {ln le sz la : Int32} {f g : Nat → Int32} (h : rBk k ln le f sz la g) : (ln = -1 ↔ sz < 0) ∧ (ln = -1 ↔ ¬ 0 ≤ sz) := by
  rcases h with ⟨rfl, rfl⟩ | ⟨⟨h1, h2⟩, h3, rfl, ⟨h4, h5⟩, _⟩
  · exact ⟨by decide, by decide⟩
  · have e1 : ¬ ln = -1 := fun q => by rw [q] at h1; exact absurd h1 (by decide)
    have e2 : (0 : Int32) ≤ le := (fa_le _ _).mpr h4
    exact ⟨⟨fun q => absurd q e1, fun q => absurd q (Int32.not_lt.mpr e2)⟩, ⟨fun q => absurd q e1, fun q => absurd e2 q⟩⟩
theorem rB_yes {k : Nat} {ln le sz la : Int32} {f g : Nat → Int32} (h : rBk k ln le f sz la g) (hn : ¬ ln = -1) : (0 ≤ ln ∧ ln ≤ 2) ∧ ln = la ∧ le = sz ∧ (0 ≤ le.toInt ∧ le.toInt ≤ 48) ∧ ∀ i : Nat, (i : Int) < le.toInt → f i = g (48 * k + i) := by
  rcases h with ⟨rfl, rfl⟩ | h
  · exact absurd rfl hn
  · exact h
theorem nI4 {i j : Nat} (hi : i < 4) (hj : j < 4) (h : nI i = nI j) : i = j := (nI_eq (by omega) (by omega)).mp h
theorem stB_sheet {zc u : CS} {zr v : RS2} {k ln n r r' : Int32} (h : relB zc zr) (hc : pC_sheet zc k ln n r u) (hr : pR_sheet zr k ln n r' v) : relB u v ∧ r = r' := by
  rcases hc with ⟨a1, rfl, rfl⟩ | ⟨js, rfl, a1, a2, rfl, rfl⟩ | ⟨js, rfl, a1, a2, a3, a4, rfl, rfl⟩ | ⟨js, rfl, a1, a2, a3, a4, rfl, rfl⟩ | ⟨js, rfl, a1, a2, a3, rfl, rfl⟩ <;> rcases hr with ⟨b1, rfl, rfl⟩ | ⟨js', e, b1, b2, rfl, rfl⟩ | ⟨js', e, b1, b2, b3, b4, nn, en, hnn, rfl, rfl⟩ | ⟨js', e, b1, b2, b3, b4, rfl, rfl⟩ | ⟨js', e, b1, b2, b3, rfl, rfl⟩
  all_goals first | exact ⟨h, rfl⟩ | exact absurd rfl (b1 js a1) | exact absurd e (a1 js' b1) | exact absurd a2 b2 | exact absurd b2 a2 | exact absurd a3 b3 | exact absurd b3 a3 | exact absurd a4 b4 | exact absurd b4 a4 | skip
  obtain rfl := nI4 a1 b1 e
  subst en
  refine ⟨rB_set h js (fun k hk => ?_) (fun j hj => ?_) ?_, rfl⟩
  · exact ⟨va_up_ne _ _ hk, va_up_ne _ _ hk, va_up_ne _ _ hk, pk_un hk, pk_un hk⟩
  · exact zfill_out (by omega)
  · have e1 : (fB (va_up (cs_i zc) 2 0, cs_n zc, va_up (va_up (cs_I zc) 8 (va_up (cs_I zc 8) js ln)) 9 (va_up (cs_I zc 9) js (nI nn)), cs_L zc, cs_N zc, va_up (cs_S zc) js (fun _ => 0), cs_X zc)) = (va_up (cs_I zc 8) js ln, va_up (cs_I zc 9) js (nI nn), va_up (cs_S zc) js (fun _ => 0)) := rfl
    have e2 : gB (va_up (rs_i zr) 0 0, rs_n zr, va_up (va_up (va_up (rs_I zr) 7 (upd (rs_I zr 7) js (nI nn))) 8 (upd (rs_I zr 8) js ln)) 9 (zfill (48 * js) (rs_I zr 9) nn), rs_L zr) = (upd (rs_I zr 7) js (nI nn), upd (rs_I zr 8) js ln, zfill (48 * js) (rs_I zr 9) nn) := rfl
    rw [e1, e2]
    show rBk js (va_up (cs_I zc 8) js ln js) (va_up (cs_I zc 9) js (nI nn) js) (va_up (cs_S zc) js (fun _ => 0) js) (upd (rs_I zr 7) js (nI nn) js) (upd (rs_I zr 8) js ln js) (zfill (48 * js) (rs_I zr 9) nn)
    rw [va_up_self, va_up_self, va_up_self, pk_us, pk_us]
    have en : (nI nn).toInt = (nn : Int) := nI_toInt (by omega)
    exact Or.inr ⟨a2, rfl, rfl, by omega, fun i hi => (zfill_in (by omega)).symm⟩
theorem stB_lose {zc u : CS} {zr v : RS2} {k r r' : Int32} (h : relB zc zr) (hc : pC_lose zc k r u) (hr : pR_lose zr k r' v) : relB u v ∧ r = r' := by
  rcases hr with ⟨b1, rfl, rfl⟩ | ⟨js, rfl, b1, b2, rfl, rfl⟩ | ⟨js, rfl, b1, b2, rfl, rfl⟩
  · rcases hc with ⟨a1, rfl, rfl⟩ | ⟨j, rfl, a1, a2, rfl, rfl⟩ | ⟨j, rfl, a1, a2, rfl, rfl⟩
    · exact ⟨h, rfl⟩
    · exact absurd rfl (b1 j a1)
    · exact absurd rfl (b1 j a1)
  · have hs := relB_at h b1
    rcases hc with ⟨a1, rfl, rfl⟩ | ⟨j, e, a1, a2, rfl, rfl⟩ | ⟨j, e, a1, a2, rfl, rfl⟩
    · exact absurd rfl (a1 js b1)
    · obtain rfl := nI4 b1 a1 e
      refine ⟨rB_set h js (fun k hk => ⟨va_up_ne _ _ hk, va_up_ne _ _ hk, va_up_ne _ _ hk, pk_un hk, rfl⟩) (fun j hj => rfl) ?_, rfl⟩
      exact Or.inl ⟨va_up_self _ _ _, pk_us⟩
    · obtain rfl := nI4 b1 a1 e
      exact absurd b2 ((rB_neg hs).2.mp a2)
  · have hs := relB_at h b1
    rcases hc with ⟨a1, rfl, rfl⟩ | ⟨j, e, a1, a2, rfl, rfl⟩ | ⟨j, e, a1, a2, rfl, rfl⟩
    · exact absurd rfl (a1 js b1)
    · obtain rfl := nI4 b1 a1 e
      exact absurd ((rB_neg hs).2.mpr b2) a2
    · obtain rfl := nI4 b1 a1 e
      refine ⟨rB_set h js (fun k hk => ⟨rfl, rfl, rfl, pk_un hk, rfl⟩) (fun j hj => rfl) ?_, rfl⟩
      exact Or.inl ⟨a2, pk_us⟩
theorem ncell_no {sz i : Int32} (h : sz < 0) : ncell sz i = 1 := if_pos h
theorem ncell_in {sz i : Int32} (h : ¬ sz < 0) (h1 : 0 ≤ i.toInt64 ∧ i.toInt64 ≤ sz.toInt64 - 1) : ncell sz i = 0 := by rw [ncell, if_neg h, if_pos h1]
theorem ncell_out {sz i : Int32} (h : ¬ sz < 0) (h1 : ¬ (0 ≤ i.toInt64 ∧ i.toInt64 ≤ sz.toInt64 - 1)) : ncell sz i = 3 := by rw [ncell, if_neg h, if_neg h1]
theorem stB_put {zc u : CS} {zr v : RS2} {k ix w r r' : Int32} (h : relB zc zr) (hc : pC_put zc k ix w r u) (hr : pR_put zr k ix w r' v) : relB u v ∧ r = r' := by
  rcases hc with ⟨a1, rfl, rfl⟩ | ⟨js, rfl, a1, a2, a3, rfl, rfl⟩ | ⟨js, rfl, a1, a2, a3, rfl, rfl⟩ | ⟨js, rfl, a1, a2, rfl, rfl⟩
  · rcases hr with ⟨b1, rfl, rfl⟩ | ⟨j, e, b1, _⟩ | ⟨j, e, b1, _⟩ | ⟨j, e, b1, _⟩ | ⟨j, e, b1, _⟩
    · exact ⟨h, rfl⟩
    all_goals exact absurd e (a1 j b1)
  · have hs := relB_at h a1
    obtain ⟨y1, y2, y3, y4, y5⟩ := rB_yes hs a2
    have hnn : ¬ rs_I zr 7 js < 0 := fun q => a2 ((rB_neg hs).1.mpr q)
    have hi := (hold1 y4).mp a3
    have hnc : ncell (rs_I zr 7 js) ix = 0 := ncell_in hnn (y3 ▸ hi)
    have key : ∀ (ia : Nat) (x : Int32), ix = nI ia → ia < 48 → x = cutv (cs_I zc 8 js) w → relB (va_up (cs_i zc) 2 0, cs_n zc, cs_I zc, cs_L zc, cs_N zc, va_up (cs_S zc) js (upd (cs_S zc js) (ix).toNatClampNeg (cutv (cs_I zc 8 js) w)), cs_X zc) (va_up (rs_i zr) 0 0, rs_n zr, va_up (rs_I zr) 9 (upd (rs_I zr 9) (48 * js + ia) x), rs_L zr) := by
      intro ia x e1 hia e2
      subst e1; subst e2
      rw [nI_clamp (by omega)]
      refine rB_set h js (fun k hk => ⟨rfl, rfl, va_up_ne _ _ hk, rfl, rfl⟩) (fun j hj => pk_un (by omega)) ?_
      show rBk js (cs_I zc 8 js) (cs_I zc 9 js) (va_up (cs_S zc) js (upd (cs_S zc js) ia (cutv (cs_I zc 8 js) w)) js) (rs_I zr 7 js) (rs_I zr 8 js) (upd (rs_I zr 9) (48 * js + ia) (cutv (cs_I zc 8 js) w))
      rw [va_up_self]
      refine Or.inr ⟨y1, y2, y3, y4, fun i hi => ?_⟩
      by_cases e : i = ia
      · subst e; rw [pk_us, pk_us]
      · rw [pk_un e, pk_un (by omega)]; exact y5 i hi
    rcases hr with ⟨b1, rfl, rfl⟩ | ⟨j, e, b1, b2, ia, e1, hia, c1, c2, rfl, rfl⟩ | ⟨j, e, b1, b2, ia, e1, hia, c1, c2, rfl, rfl⟩ | ⟨j, e, b1, b2, ia, e1, hia, c1, rfl, rfl⟩ | ⟨j, e, b1, b2, rfl, rfl⟩
    · exact absurd rfl (b1 js a1)
    · obtain rfl := nI4 a1 b1 e
      rw [← y2] at c1 c2
      exact ⟨key ia w e1 hia (by rw [cutv, if_neg c1, if_neg c2]), rfl⟩
    · obtain rfl := nI4 a1 b1 e
      rw [← y2] at c1 c2
      exact ⟨key ia _ e1 hia (by rw [cutv, if_neg c1, if_pos c2]), rfl⟩
    · obtain rfl := nI4 a1 b1 e
      rw [← y2] at c1
      exact ⟨key ia _ e1 hia (by rw [cutv, if_pos c1]), rfl⟩
    · obtain rfl := nI4 a1 b1 e
      rw [hnc] at b2; exact absurd (by decide) b2
  · have hs := relB_at h a1
    obtain ⟨y1, y2, y3, y4, y5⟩ := rB_yes hs a2
    have hnn : ¬ rs_I zr 7 js < 0 := fun q => a2 ((rB_neg hs).1.mpr q)
    have hnc : ncell (rs_I zr 7 js) ix = 3 := ncell_out hnn (fun q => a3 ((hold1 y4).mpr (y3 ▸ q)))
    rcases hr with ⟨b1, rfl, rfl⟩ | ⟨j, e, b1, b2, _⟩ | ⟨j, e, b1, b2, _⟩ | ⟨j, e, b1, b2, _⟩ | ⟨j, e, b1, b2, rfl, rfl⟩
    · exact absurd rfl (b1 js a1)
    all_goals
      obtain rfl := nI4 a1 b1 e
      rw [hnc] at b2
    · exact absurd b2 (by decide)
    · exact absurd b2 (by decide)
    · exact absurd b2 (by decide)
    · exact ⟨h, by rw [hnc]⟩
  · have hs := relB_at h a1
    have hnc : ncell (rs_I zr 7 js) ix = 1 := ncell_no ((rB_neg hs).1.mp a2)
    rcases hr with ⟨b1, rfl, rfl⟩ | ⟨j, e, b1, b2, _⟩ | ⟨j, e, b1, b2, _⟩ | ⟨j, e, b1, b2, _⟩ | ⟨j, e, b1, b2, rfl, rfl⟩
    · exact absurd rfl (b1 js a1)
    all_goals
      obtain rfl := nI4 a1 b1 e
      rw [hnc] at b2
    · exact absurd b2 (by decide)
    · exact absurd b2 (by decide)
    · exact absurd b2 (by decide)
    · exact ⟨h, by rw [hnc]⟩
theorem stB_cell' {zc u : CS} {zr v : RS2} {k ix ln : Int32} {r r' : Int64} (h : relB zc zr) (hc : pC_cell zc k ix ln r u) (hr : pR_cell zr k ix ln r' v) : r = r' := by
  rcases hc with ⟨a1, rfl, rfl⟩ | ⟨js, rfl, a1, a2, a3, rfl, rfl⟩ | ⟨js, rfl, a1, a2, a3, a4, a5, rfl, rfl⟩ | ⟨js, rfl, a1, a2, a3, a4, a5, rfl, rfl⟩ | ⟨js, rfl, a1, a2, a3, a4, rfl, rfl⟩ | ⟨js, rfl, a1, a2, rfl, rfl⟩
  · rcases hr with ⟨b1, rfl, rfl⟩ | ⟨j, e, b1, _⟩ | ⟨j, e, b1, _⟩ | ⟨j, e, b1, _⟩ | ⟨j, e, b1, _⟩ | ⟨j, e, b1, _⟩ | ⟨j, e, b1, _⟩
    · rfl
    all_goals exact absurd e (a1 j b1)
  all_goals
    have hs := relB_at h a1
    rcases hr with ⟨b1, rfl, rfl⟩ | ⟨j, e, b1, b2, b3, b4, ia, e1, hia, rfl, rfl⟩ | ⟨j, e, b1, b2, b3, b4, rfl, rfl⟩ | ⟨j, e, b1, b2, b3, b4, b5, ia, e1, hia, rfl, rfl⟩ | ⟨j, e, b1, b2, b3, b4, b5, rfl, rfl⟩ | ⟨j, e, b1, b2, b3, b4, rfl, rfl⟩ | ⟨j, e, b1, b2, rfl, rfl⟩
    · exact absurd rfl (b1 js a1)
    all_goals obtain rfl := nI4 a1 b1 e
    all_goals first | rfl | exact absurd b2 a2 | exact absurd a2 b2 | exact absurd ((rB_neg hs).1.mp a3) b3 | exact absurd ((rB_neg hs).1.mpr b3) a3 | skip
  all_goals first
    | (rw [ncell_no b3] at b4; exact absurd b4 (by decide))
    | (obtain ⟨y1, y2, y3, y4, y5⟩ := rB_yes hs a3
       first
       | exact absurd (y2.symm.trans a4) (fun q => b4 (q ▸ rfl))
       | exact absurd (y2 ▸ a4) b4
       | exact absurd (y2 ▸ b4) a4
       | (rw [ncell_in b3 (y3 ▸ (hold1 y4).mp a5)] at b5; exact absurd (by decide) b5)
       | (rw [ncell_out b3 (fun q => a5 ((hold1 y4).mpr (y3 ▸ q)))] at b5; exact absurd b5 (by decide))
       | (subst e1
          rw [nI_clamp (by omega)]
          rw [y5 ia (by
            have q := (hold1 y4).mp a5
            have q2 := Int64.le_iff_toInt_le.mp q.2
            have z2 : (1 : Int64).toInt = 1 := by decide
            rw [Int64.toInt_sub, Int32.toInt_toInt64, Int32.toInt_toInt64, nI_toInt (by omega), z2, Int.bmod_eq_of_le (by omega) (by omega)] at q2
            omega)]))
theorem hold_of {a b : Nat} {le : Int32} (h : ((a + b : Nat) : Int) ≤ le.toInt) (h2 : a + b ≤ 48) : 0 ≤ nI a ∧ 0 ≤ nI b ∧ (nI a).toInt64 + (nI b).toInt64 ≤ le.toInt64 := by
  refine ⟨nI_pos' (by omega), nI_pos' (by omega), ?_⟩
  rw [Int64.le_iff_toInt_le, Int64.toInt_add, Int32.toInt_toInt64, Int32.toInt_toInt64, Int32.toInt_toInt64, nI_toInt (by omega), nI_toInt (by omega), Int.bmod_eq_of_le (by omega) (by omega)]
  omega
theorem stB_copy {zc u : CS} {zr v : RS2} {k ix ot jx n r r' : Int32} (h : relB zc zr) (hc : pC_copy zc k ix ot jx n r u) (hr : pR_copy zr k ix ot jx n r' v) : relB u v ∧ r = r' := by
  rcases hc with ⟨a1, a2, rfl, rfl⟩ | ⟨a1, jo, rfl, a2, rfl, rfl⟩ | ⟨js, rfl, a1, a2, rfl, rfl⟩ | hc
  · rcases hr with ⟨b1, rfl, rfl⟩ | ⟨j, e, b1, b2, rfl, rfl⟩ | ⟨j, e, b1, _⟩ | ⟨j, e, b1, _⟩ | ⟨j, e, b1, _⟩ | ⟨j, e, b1, _⟩ | ⟨j, e, b1, _⟩ | ⟨j, e, b1, _⟩
    · exact ⟨h, rfl⟩
    · exact ⟨h, rfl⟩
    all_goals exact absurd e (a1 j b1)
  · rcases hr with ⟨b1, rfl, rfl⟩ | ⟨j, e, b1, b2, rfl, rfl⟩ | ⟨j, e, b1, _⟩ | ⟨j, e, b1, _⟩ | ⟨j, e, b1, _⟩ | ⟨j, e, b1, _⟩ | ⟨j, e, b1, _⟩ | ⟨j, e, b1, _⟩
    · exact ⟨h, rfl⟩
    · exact ⟨h, rfl⟩
    all_goals exact absurd e (a1 j b1)
  · rcases hr with ⟨b1, rfl, rfl⟩ | ⟨j, e, b1, b2, rfl, rfl⟩ | ⟨j, e, b1, jo, e2, b2, _⟩ | ⟨j, e, b1, jo, e2, b2, _⟩ | ⟨j, e, b1, jo, e2, b2, _⟩ | ⟨j, e, b1, jo, e2, b2, _⟩ | ⟨j, e, b1, jo, e2, b2, _⟩ | ⟨j, e, b1, jo, e2, b2, _⟩
    · exact ⟨h, rfl⟩
    · exact ⟨h, rfl⟩
    all_goals exact absurd e2 (a2 jo b2)
  -- both sheets are: js, jo, the class's cases with js = jo and apart as one
  have both : ∃ js jo : Nat, k = nI js ∧ js < 4 ∧ ot = nI jo ∧ jo < 4 ∧ ((cs_I zc 8 js = -1 ∧ r = -10 - 1 ∧ fB u = fB zc) ∨ (¬ cs_I zc 8 js = -1 ∧ cs_I zc 8 jo = -1 ∧ r = -10 - 1 ∧ fB u = fB zc) ∨ (¬ cs_I zc 8 js = -1 ∧ ¬ cs_I zc 8 jo = -1 ∧ ¬ cs_I zc 8 js = cs_I zc 8 jo ∧ r = -10 - 2 ∧ fB u = fB zc) ∨ (¬ cs_I zc 8 js = -1 ∧ ¬ cs_I zc 8 jo = -1 ∧ cs_I zc 8 js = cs_I zc 8 jo ∧ (¬ (0 ≤ ix ∧ 0 ≤ n ∧ ix.toInt64 + n.toInt64 ≤ (cs_I zc 9 js).toInt64) ∨ ¬ (0 ≤ jx ∧ 0 ≤ n ∧ jx.toInt64 + n.toInt64 ≤ (cs_I zc 9 jo).toInt64)) ∧ r = -10 - 3 ∧ fB u = fB zc) ∨ (¬ cs_I zc 8 js = -1 ∧ ¬ cs_I zc 8 jo = -1 ∧ cs_I zc 8 js = cs_I zc 8 jo ∧ ∃ ia ja nn : Nat, ix = nI ia ∧ jx = nI ja ∧ n = nI nn ∧ ia + nn ≤ 48 ∧ ja + nn ≤ 48 ∧ ((ia + nn : Nat) : Int) ≤ (cs_I zc 9 js).toInt ∧ ((ja + nn : Nat) : Int) ≤ (cs_I zc 9 jo).toInt ∧ r = nI nn ∧ fB u = (cs_I zc 8, cs_I zc 9, va_up (cs_S zc) jo (va_cpy (cs_S zc js) (cs_S zc jo) ia ja nn)))) := by
    rcases hc with ⟨js, e1, a1, e2, c1, rfl, rfl⟩ | ⟨js, e1, a1, e2, c1, c2, c3, c4, rfl, rfl⟩ | ⟨js, e1, a1, e2, c1, c2, c3, ia, ja, nn, d1, d2, d3, d4, d5, d6, d7, rfl, rfl⟩ | ⟨js, e1, a1, e2, c1, c2, c3, c4, c5, rfl, rfl⟩ | ⟨js, e1, a1, e2, c1, c2, c3, rfl, rfl⟩ | ⟨js, e1, a1, e2, c1, c2, rfl, rfl⟩ | ⟨js, e1, a1, jo, e2, a2, _, c1, rfl, rfl⟩ | ⟨js, e1, a1, jo, e2, a2, _, c1, c2, c3, c4, rfl, rfl⟩ | ⟨js, e1, a1, jo, e2, a2, _, c1, c2, c3, ia, ja, nn, d1, d2, d3, d4, d5, d6, d7, rfl, rfl⟩ | ⟨js, e1, a1, jo, e2, a2, _, c1, c2, c3, c4, c5, rfl, rfl⟩ | ⟨js, e1, a1, jo, e2, a2, _, c1, c2, c3, rfl, rfl⟩ | ⟨js, e1, a1, jo, e2, a2, _, c1, c2, rfl, rfl⟩
    · exact ⟨js, js, e1, a1, e2, a1, Or.inl ⟨c1, rfl, rfl⟩⟩
    · exact ⟨js, js, e1, a1, e2, a1, Or.inr (Or.inr (Or.inr (Or.inl ⟨c1, c2, rfl, Or.inl c4, rfl, rfl⟩)))⟩
    · exact ⟨js, js, e1, a1, e2, a1, Or.inr (Or.inr (Or.inr (Or.inr ⟨c1, c2, rfl, ia, ja, nn, d1, d2, d3, d4, d5, d6, d7, rfl, rfl⟩)))⟩
    · exact ⟨js, js, e1, a1, e2, a1, Or.inr (Or.inr (Or.inr (Or.inl ⟨c1, c2, rfl, Or.inr c5, rfl, rfl⟩)))⟩
    · exact absurd rfl c3
    · exact absurd c2 c1
    · exact ⟨js, jo, e1, a1, e2, a2, Or.inl ⟨c1, rfl, rfl⟩⟩
    · exact ⟨js, jo, e1, a1, e2, a2, Or.inr (Or.inr (Or.inr (Or.inl ⟨c1, c2, c3, Or.inl c4, rfl, rfl⟩)))⟩
    · exact ⟨js, jo, e1, a1, e2, a2, Or.inr (Or.inr (Or.inr (Or.inr ⟨c1, c2, c3, ia, ja, nn, d1, d2, d3, d4, d5, d6, d7, rfl, rfl⟩)))⟩
    · exact ⟨js, jo, e1, a1, e2, a2, Or.inr (Or.inr (Or.inr (Or.inl ⟨c1, c2, c3, Or.inr c5, rfl, rfl⟩)))⟩
    · exact ⟨js, jo, e1, a1, e2, a2, Or.inr (Or.inr (Or.inl ⟨c1, c2, c3, rfl, rfl⟩))⟩
    · exact ⟨js, jo, e1, a1, e2, a2, Or.inr (Or.inl ⟨c1, c2, rfl, rfl⟩)⟩
  clear hc
  obtain ⟨js, jo, rfl, a1, rfl, a2, hc⟩ := both
  have hs := relB_at h a1
  have ho := relB_at h a2
  have same : ∀ {w : RS2}, fB u = fB zc → gB w = gB zr → relB u w := fun e1 e2 => relB_of e1 e2 h
  rcases hr with ⟨b1, rfl, rfl⟩ | ⟨j, e, b1, b2, rfl, rfl⟩ | ⟨j, e, b1, j2, e2, b2, d1, rfl, rfl⟩ | ⟨j, e, b1, j2, e2, b2, d1, d2, d3, d4, rfl, rfl⟩ | ⟨j, e, b1, j2, e2, b2, d1, d2, d3, ia', ja', nn', f1, f2, f3, f4, f5, f6, f7, rfl, rfl⟩ | ⟨j, e, b1, j2, e2, b2, d1, d2, d3, d4, d5, rfl, rfl⟩ | ⟨j, e, b1, j2, e2, b2, d1, d2, d3, rfl, rfl⟩ | ⟨j, e, b1, j2, e2, b2, d1, d2, rfl, rfl⟩
  · exact absurd rfl (b1 js a1)
  · exact absurd rfl (b2 jo a2)
  all_goals
    obtain rfl := nI4 a1 b1 e
    obtain rfl := nI4 a2 b2 e2
  · rcases hc with ⟨c1, rfl, c2⟩ | ⟨c1, _⟩ | ⟨c1, _⟩ | ⟨c1, _⟩ | ⟨c1, _⟩
    · exact ⟨same c2 rfl, rfl⟩
    all_goals exact absurd ((rB_neg hs).1.mpr d1) c1
  all_goals
    have n1 : ¬ cs_I zc 8 js = -1 := fun q => d1 ((rB_neg hs).1.mp q)
    obtain ⟨x1, x2, x3, x4, x5⟩ := rB_yes hs n1
  · have n2 : ¬ cs_I zc 8 jo = -1 := fun q => ((rB_neg ho).2.mp q) d2
    obtain ⟨y1, y2, y3, y4, y5⟩ := rB_yes ho n2
    rw [← x2, ← y2] at d3
    rw [← x3] at d4
    rcases hc with ⟨c1, _⟩ | ⟨_, c1, _⟩ | ⟨_, _, c1, _⟩ | ⟨_, _, _, _, rfl, c2⟩ | ⟨_, _, _, ia, ja, nn, g1, g2, g3, g4, g5, g6, g7, _⟩
    · exact absurd c1 n1
    · exact absurd c1 n2
    · exact absurd d3 c1
    · exact ⟨same c2 rfl, rfl⟩
    · subst g1; subst g3
      exact absurd (hold_of g6 g4) d4
  · have n2 : ¬ cs_I zc 8 jo = -1 := fun q => ((rB_neg ho).2.mp q) d2
    obtain ⟨y1, y2, y3, y4, y5⟩ := rB_yes ho n2
    rw [← x2, ← y2] at d3
    rw [← x3] at f6
    rw [← y3] at f7
    subst f1; subst f2; subst f3
    rcases hc with ⟨c1, _⟩ | ⟨_, c1, _⟩ | ⟨_, _, c1, _⟩ | ⟨_, _, _, c1, rfl, c2⟩ | ⟨_, _, _, ia, ja, nn, g1, g2, g3, g4, g5, g6, g7, rfl, c2⟩
    · exact absurd c1 n1
    · exact absurd c1 n2
    · exact absurd d3 c1
    · rcases c1 with c1 | c1
      · exact absurd (hold_of f6 f4) c1
      · exact absurd (hold_of f7 f5) c1
    · obtain rfl := (nI_eq (by omega) (by omega)).mp g1
      obtain rfl := (nI_eq (by omega) (by omega)).mp g2
      obtain rfl := (nI_eq (by omega) (by omega)).mp g3
      refine ⟨?_, rfl⟩
      unfold relB
      rw [c2]
      refine rB_set h jo (fun k hk => ⟨rfl, rfl, va_up_ne _ _ hk, rfl, rfl⟩) (fun j hj => cpt_out (by omega)) ?_
      show rBk jo (cs_I zc 8 jo) (cs_I zc 9 jo) (va_up (cs_S zc) jo (va_cpy (cs_S zc js) (cs_S zc jo) ia' ja' nn') jo) (rs_I zr 7 jo) (rs_I zr 8 jo) (cpt (cpf (rs_I zr 9) (48 * js + ia') (rs_I zr 10) nn') (48 * jo + ja') (rs_I zr 9) nn')
      rw [va_up_self]
      refine Or.inr ⟨y1, y2, y3, y4, fun i hi => ?_⟩
      by_cases hin : ja' ≤ i ∧ i < ja' + nn'
      · rw [pk_cpy_in hin.1 hin.2, x5 _ (by omega)]
        have e9 : 48 * jo + i = (48 * jo + ja') + (i - ja') := by omega
        rw [e9, cpt_in (by omega), cpf_in (by omega)]
        congr 1
        omega
      · rw [pk_cpy_out (by omega), cpt_out (by omega)]
        exact y5 i hi
  · have n2 : ¬ cs_I zc 8 jo = -1 := fun q => ((rB_neg ho).2.mp q) d2
    obtain ⟨y1, y2, y3, y4, y5⟩ := rB_yes ho n2
    rw [← x2, ← y2] at d3
    rw [← y3] at d5
    rcases hc with ⟨c1, _⟩ | ⟨_, c1, _⟩ | ⟨_, _, c1, _⟩ | ⟨_, _, _, _, rfl, c2⟩ | ⟨_, _, _, ia, ja, nn, g1, g2, g3, g4, g5, g6, g7, _⟩
    · exact absurd c1 n1
    · exact absurd c1 n2
    · exact absurd d3 c1
    · exact ⟨same c2 rfl, rfl⟩
    · subst g2; subst g3
      exact absurd (hold_of g7 g5) d5
  · have n2 : ¬ cs_I zc 8 jo = -1 := fun q => ((rB_neg ho).2.mp q) d2
    obtain ⟨y1, y2, y3, y4, y5⟩ := rB_yes ho n2
    rw [← x2, ← y2] at d3
    rcases hc with ⟨c1, _⟩ | ⟨_, c1, _⟩ | ⟨_, _, c1, rfl, c2⟩ | ⟨_, _, c1, _⟩ | ⟨_, _, c1, _⟩
    · exact absurd c1 n1
    · exact absurd c1 n2
    · exact ⟨same c2 rfl, rfl⟩
    · exact absurd c1 d3
    · exact absurd c1 d3
  · have n2 : cs_I zc 8 jo = -1 := (rB_neg ho).2.mpr d2
    rcases hc with ⟨c1, _⟩ | ⟨_, c1, rfl, c2⟩ | ⟨_, c1, _⟩ | ⟨_, c1, _⟩ | ⟨_, c1, _⟩
    · exact absurd c1 n1
    · exact ⟨same c2 rfl, rfl⟩
    all_goals exact absurd n2 c1
