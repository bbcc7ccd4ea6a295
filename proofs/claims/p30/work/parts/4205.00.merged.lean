/-! layer A: gangs' kinds, the trace -/
def fA (z : CS) : Nat × (Nat → Nat) × Int32 := (cs_n z 1, cs_N z 1, cs_i z 1)
def gA (z : RS2) : Nat × (Nat → Int32) × Int32 := (rs_n z 1, rs_I z 18, rs_i z 38)
def kI (n : Nat) : Int32 := if n = 2 then 0 else if n = 1 then 1 else 2
def rA (a : Nat × (Nat → Nat) × Int32) (b : Nat × (Nat → Int32) × Int32) : Prop := a.1 = b.1 ∧ (∀ g, g < a.1 → b.2.1 g = kI (a.2.1 g)) ∧ a.2.2 = b.2.2
def relA (zc : CS) (zr : RS2) : Prop := rA (fA zc) (gA zr)
theorem relA_of {zc u : CS} {zr v : RS2} (h1 : fA u = fA zc) (h2 : gA v = gA zr) (h : relA zc zr) : relA u v := by
  unfold relA; rw [h1, h2]; exact h
theorem relA_0 {x : Nat → Nat → Nat} : relA (z0C x) z0R := ⟨rfl, fun g hg => absurd hg (Nat.not_lt_zero g), rfl⟩
theorem frAC_trace {zc u : CS} {r : Int32} (h : pC_trace zc r u) : fA u = fA zc := by
  rcases h with ⟨_, rfl⟩
  all_goals rfl
theorem frAR_trace {zr u : RS2} {r : Int32} (h : pR_trace zr r u) : gA u = gA zr := by
  rcases h with ⟨_, rfl⟩
  all_goals rfl
theorem frAC_fault {zc u : CS} {r : Int32} (h : pC_fault zc r u) : fA u = fA zc := by
  rcases h with ⟨_, rfl⟩
  all_goals rfl
theorem frAR_fault {zr u : RS2} {r : Int32} (h : pR_fault zr r u) : gA u = gA zr := by
  rcases h with ⟨_, rfl⟩
  all_goals rfl
theorem frAC_told {zc u : CS} {a0 : Int32} {r : Int32} (h : pC_told zc a0 r u) : fA u = fA zc := by
  rcases h with ⟨_, _, _, rfl⟩ | ⟨_, _, _, rfl⟩ | ⟨_, _, _, rfl⟩ | ⟨_, _, _, rfl⟩ | ⟨_, _, _, rfl⟩ | ⟨_, _, _, rfl⟩ | ⟨_, _, _, rfl⟩ | ⟨_, _, _, rfl⟩ | ⟨_, _, _, _, _, _, _, _, _, _, rfl⟩ | ⟨_, _, _, rfl⟩ | ⟨_, _, _, rfl⟩ | ⟨_, _, _, rfl⟩ | ⟨_, _, _, rfl⟩ | ⟨_, _, _, rfl⟩ | ⟨_, _, _, rfl⟩ | ⟨_, _, _, rfl⟩ | ⟨_, _, _, rfl⟩ | ⟨_, _, _, _, _, _, _, _, _, _, rfl⟩
  all_goals rfl
theorem frAR_told {zr u : RS2} {a0 : Int32} {r : Int32} (h : pR_told zr a0 r u) : gA u = gA zr := by
  rcases h with ⟨_, _, rfl⟩ | ⟨_, _, rfl⟩ | ⟨_, _, rfl⟩ | ⟨_, _, rfl⟩ | ⟨_, _, rfl⟩ | ⟨_, _, _, rfl⟩ | ⟨_, _, _, rfl⟩ | ⟨_, _, rfl⟩ | ⟨_, _, _, rfl⟩ | ⟨_, _, _, rfl⟩ | ⟨_, _, _, _, _, _, _, _, _, rfl⟩
  all_goals rfl
theorem frAC_good {zc u : CS} {x : Int32} {y : Int32} {wh : Int32} {r : Int32} (h : pC_good zc x y wh r u) : fA u = fA zc := by
  rcases h with ⟨_, _, _, _, rfl⟩ | ⟨_, _, _, _, rfl⟩ | ⟨_, _, _, rfl⟩ | ⟨_, _, rfl⟩
  all_goals rfl
theorem frAR_good {zr u : RS2} {x : Int32} {y : Int32} {wh : Int32} {r : Int32} (h : pR_good zr x y wh r u) : gA u = gA zr := by
  rcases h with ⟨_, _, _, _, rfl⟩ | ⟨_, _, _, _, rfl⟩ | ⟨_, _, _, rfl⟩ | ⟨_, _, rfl⟩
  all_goals rfl
theorem frAC_money {zc u : CS} {t : Int32} {wh : Int32} {r : Int64} (h : pC_money zc t wh r u) : fA u = fA zc := by
  rcases h with ⟨_, _, rfl⟩ | ⟨_, _, _, _, _, rfl⟩ | ⟨_, _, _, _, _, rfl⟩ | ⟨_, _, _, _, _, rfl⟩ | ⟨_, _, _, _, _, rfl⟩ | ⟨_, _, _, _, _, rfl⟩ | ⟨_, _, _, _, _, rfl⟩ | ⟨_, _, _, _, _, _, _, _, _, _, rfl⟩
  all_goals rfl
theorem frAR_money {zr u : RS2} {t : Int32} {wh : Int32} {r : Int64} (h : pR_money zr t wh r u) : gA u = gA zr := by
  rcases h with ⟨_, _, rfl⟩ | ⟨_, _, _, _, _, rfl⟩ | ⟨_, _, _, _, _, rfl⟩ | ⟨_, _, _, _, _, rfl⟩ | ⟨_, _, _, _, _, rfl⟩ | ⟨_, _, _, _, _, rfl⟩ | ⟨_, _, _, _, _, rfl⟩ | ⟨_, _, _, _, _, _, _, _, _, _, rfl⟩
  all_goals rfl
theorem frAC_spend {zc u : CS} {t : Int32} {wh : Int32} {pn : Int32} {r : Int64} (h : pC_spend zc t wh pn r u) : fA u = fA zc := by
  rcases h with ⟨_, _, rfl⟩ | ⟨_, _, _, _, _, rfl⟩ | ⟨_, _, _, _, _, _, _, _, rfl⟩ | ⟨_, _, _, _, _, _, _, _, rfl⟩ | ⟨_, _, _, _, _, _, _, rfl⟩ | ⟨_, _, _, _, _, _, rfl⟩
  all_goals rfl
theorem frAR_spend {zr u : RS2} {t : Int32} {wh : Int32} {pn : Int32} {r : Int64} (h : pR_spend zr t wh pn r u) : gA u = gA zr := by
  rcases h with ⟨_, _, rfl⟩ | ⟨_, _, _, _, _, rfl⟩ | ⟨_, _, _, _, _, _, rfl⟩ | ⟨_, _, _, _, _, _, _, _, _, _, rfl⟩ | ⟨_, _, _, _, _, _, _, _, _, _, rfl⟩ | ⟨_, _, _, _, _, _, _, _, _, _, rfl⟩ | ⟨_, _, _, _, _, _, _, _, _, _, rfl⟩ | ⟨_, _, _, _, _, _, _, _, _, _, rfl⟩ | ⟨_, _, _, _, _, _, _, _, _, _, rfl⟩ | ⟨_, _, _, _, _, _, _, _, _, _, rfl⟩ | ⟨_, _, _, _, _, _, _, _, _, _, rfl⟩ | ⟨_, _, _, _, _, _, _, rfl⟩
  all_goals rfl
theorem frAC_debt {zc u : CS} {g : Int32} {r : Int64} (h : pC_debt zc g r u) : fA u = fA zc := by
  rcases h with ⟨_, _, rfl⟩ | ⟨_, _, _, _, _, rfl⟩ | ⟨_, _, _, _, _, rfl⟩ | ⟨_, _, _, _, _, rfl⟩
  all_goals rfl
theorem frAR_debt {zr u : RS2} {g : Int32} {r : Int64} (h : pR_debt zr g r u) : gA u = gA zr := by
  rcases h with ⟨_, _, rfl⟩ | ⟨_, _, _, _, rfl⟩
  all_goals rfl
theorem frAC_as {zc u : CS} {g : Int32} {k : Int32} {r : Int32} (h : pC_as zc g k r u) : fA u = fA zc := by
  rcases h with ⟨_, _, rfl⟩ | ⟨_, _, _, _, _, _, _, rfl⟩ | ⟨_, _, _, _, _, _, _, rfl⟩ | ⟨_, _, _, _, _, _, rfl⟩ | ⟨_, _, _, _, _, _, _, rfl⟩ | ⟨_, _, _, _, _, _, _, rfl⟩ | ⟨_, _, _, _, _, _, rfl⟩ | ⟨_, _, _, _, _, _, _, rfl⟩ | ⟨_, _, _, _, _, _, _, rfl⟩ | ⟨_, _, _, _, _, _, rfl⟩
  all_goals rfl
theorem frAR_as {zr u : RS2} {g : Int32} {k : Int32} {r : Int32} (h : pR_as zr g k r u) : gA u = gA zr := by
  rcases h with ⟨_, _, rfl⟩ | ⟨_, _, _, _, _, _, rfl⟩ | ⟨_, _, _, _, _, _, rfl⟩ | ⟨_, _, _, _, _, rfl⟩
  all_goals rfl
theorem frAC_taken {zc u : CS} {t : Int32} {wh : Int32} {r : Int32} (h : pC_taken zc t wh r u) : fA u = fA zc := by
  rcases h with ⟨_, _, rfl⟩ | ⟨_, _, _, _, _, _, rfl⟩ | ⟨_, _, _, _, _, _, rfl⟩ | ⟨_, _, _, _, _, _, rfl⟩ | ⟨_, _, _, _, _, _, _, rfl⟩ | ⟨_, _, _, _, _, _, _, rfl⟩ | ⟨_, _, _, _, _, _, rfl⟩ | ⟨_, _, _, _, _, _, _, _, _, _, rfl⟩ | ⟨_, _, _, _, _, _, rfl⟩ | ⟨_, _, _, _, _, _, rfl⟩ | ⟨_, _, _, _, _, _, rfl⟩ | ⟨_, _, _, _, _, _, _, rfl⟩ | ⟨_, _, _, _, _, _, _, rfl⟩ | ⟨_, _, _, _, _, _, rfl⟩ | ⟨_, _, _, _, _, _, _, _, _, _, rfl⟩ | ⟨_, _, _, _, _, _, rfl⟩ | ⟨_, _, _, _, _, _, rfl⟩ | ⟨_, _, _, _, _, _, rfl⟩ | ⟨_, _, _, _, _, _, _, rfl⟩ | ⟨_, _, _, _, _, _, _, rfl⟩ | ⟨_, _, _, _, _, _, rfl⟩ | ⟨_, _, _, _, _, _, _, _, _, _, rfl⟩
  all_goals rfl
theorem frAR_taken {zr u : RS2} {t : Int32} {wh : Int32} {r : Int32} (h : pR_taken zr t wh r u) : gA u = gA zr := by
  rcases h with ⟨_, _, rfl⟩ | ⟨_, _, _, _, _, rfl⟩ | ⟨_, _, _, _, _, rfl⟩ | ⟨_, _, _, _, _, rfl⟩ | ⟨_, _, _, _, _, _, rfl⟩ | ⟨_, _, _, _, _, _, rfl⟩ | ⟨_, _, _, _, _, rfl⟩ | ⟨_, _, _, _, _, _, _, _, _, rfl⟩
  all_goals rfl
theorem frAC_settle {zc u : CS} {t : Int32} {r : Int64} (h : pC_settle zc t r u) : fA u = fA zc := by
  rcases h with ⟨_, _, rfl⟩ | ⟨_, _, _, _, _, _, rfl⟩ | ⟨_, _, _, _, _, _, rfl⟩ | ⟨_, _, _, _, _, _, rfl⟩ | ⟨_, _, _, _, _, _, rfl⟩ | ⟨_, _, _, _, _, _, rfl⟩ | ⟨_, _, _, _, _, _, rfl⟩
  all_goals rfl
theorem frAR_settle {zr u : RS2} {t : Int32} {r : Int64} (h : pR_settle zr t r u) : gA u = gA zr := by
  rcases h with ⟨_, _, rfl⟩ | ⟨_, _, _, _, _, _, _, _, _, _, _, _, rfl⟩ | ⟨_, _, _, _, _, _, _, _, _, _, _, _, rfl⟩ | ⟨_, _, _, _, _, _, _, _, _, _, _, _, rfl⟩ | ⟨_, _, _, _, _, _, _, _, _, _, _, _, rfl⟩ | ⟨_, _, _, _, _, _, _, _, _, _, _, _, rfl⟩ | ⟨_, _, _, _, _, _, _, _, _, _, _, _, rfl⟩ | ⟨_, _, _, _, _, _, _, _, _, _, _, _, rfl⟩ | ⟨_, _, _, _, _, _, _, _, _, _, _, _, rfl⟩ | ⟨_, _, _, _, _, _, _, _, _, _, _, _, rfl⟩ | ⟨_, _, _, _, _, _, _, _, _, _, _, _, rfl⟩ | ⟨_, _, _, _, _, _, _, _, _, _, _, _, rfl⟩ | ⟨_, _, _, _, _, _, _, _, _, _, _, _, rfl⟩ | ⟨_, _, _, _, _, _, _, _, _, _, _, _, rfl⟩ | ⟨_, _, _, _, _, _, _, _, _, _, _, _, rfl⟩ | ⟨_, _, _, _, _, _, _, _, _, _, _, _, rfl⟩ | ⟨_, _, _, _, _, _, _, _, _, _, _, _, rfl⟩ | ⟨_, _, _, _, _, rfl⟩
  all_goals rfl
theorem frAC_about {zc u : CS} {pp : Int32} {wh : Int32} {r : Int32} (h : pC_about zc pp wh r u) : fA u = fA zc := by
  rcases h with ⟨_, _, rfl⟩ | ⟨_, _, _, _, _, _, rfl⟩ | ⟨_, _, _, _, _, _, rfl⟩ | ⟨_, _, _, _, _, _, rfl⟩ | ⟨_, _, _, _, _, _, rfl⟩ | ⟨_, _, _, _, _, _, rfl⟩ | ⟨_, _, _, _, _, _, rfl⟩ | ⟨_, _, _, _, _, _, rfl⟩ | ⟨_, _, _, _, _, _, _, _, _, _, _, _, rfl⟩ | ⟨_, _, _, _, _, _, rfl⟩ | ⟨_, _, _, _, _, _, rfl⟩ | ⟨_, _, _, _, _, _, rfl⟩ | ⟨_, _, _, _, _, _, rfl⟩ | ⟨_, _, _, _, _, _, rfl⟩ | ⟨_, _, _, _, _, _, rfl⟩ | ⟨_, _, _, _, _, _, rfl⟩ | ⟨_, _, _, _, _, _, _, _, _, _, _, _, rfl⟩
  all_goals rfl
theorem frAR_about {zr u : RS2} {pp : Int32} {wh : Int32} {r : Int32} (h : pR_about zr pp wh r u) : gA u = gA zr := by
  rcases h with ⟨_, _, rfl⟩ | ⟨_, _, _, _, _, rfl⟩ | ⟨_, _, _, _, _, rfl⟩ | ⟨_, _, _, _, _, rfl⟩ | ⟨_, _, _, _, _, rfl⟩ | ⟨_, _, _, _, _, rfl⟩ | ⟨_, _, _, _, _, _, _, rfl⟩ | ⟨_, _, _, _, _, rfl⟩ | ⟨_, _, _, _, _, _, _, _, _, _, _, rfl⟩
  all_goals rfl
theorem frAC_parcel {zc u : CS} {t : Int32} {tn : Int32} {gd : Int32} {r : Int32} (h : pC_parcel zc t tn gd r u) : fA u = fA zc := by
  rcases h with ⟨_, _, rfl⟩ | ⟨_, _, _, _, _, rfl⟩ | ⟨_, _, _, _, _, _, _, _, _, _, rfl⟩ | ⟨_, _, _, _, _, _, _, _, rfl⟩ | ⟨_, _, _, _, _, _, _, rfl⟩ | ⟨_, _, _, _, _, _, rfl⟩
  all_goals rfl
theorem frAR_parcel {zr u : RS2} {t : Int32} {tn : Int32} {gd : Int32} {r : Int32} (h : pR_parcel zr t tn gd r u) : gA u = gA zr := by
  rcases h with ⟨_, _, rfl⟩ | ⟨_, _, _, _, _, rfl⟩ | ⟨_, _, _, _, _, _, _, _, _, rfl⟩ | ⟨_, _, _, _, _, _, _, _, rfl⟩ | ⟨_, _, _, _, _, _, _, rfl⟩ | ⟨_, _, _, _, _, _, rfl⟩
  all_goals rfl
theorem frAC_pitch {zc u : CS} {x : Int32} {y : Int32} {xx : Int32} {yy : Int32} {tn : Int32} {r : Int32} (h : pC_pitch zc x y xx yy tn r u) : fA u = fA zc := by
  rcases h with ⟨_, _, rfl⟩ | ⟨_, _, _, _, rfl⟩ | ⟨_, _, _, _, _, rfl⟩ | ⟨_, _, _, _, _, _, _, _, _, _, rfl⟩ | ⟨_, _, _, _, _, _, _, _, rfl⟩ | ⟨_, _, _, _, _, _, _, rfl⟩ | ⟨_, _, _, _, _, _, rfl⟩ | ⟨_, _, _, rfl⟩
  all_goals rfl
theorem frAR_pitch {zr u : RS2} {x : Int32} {y : Int32} {xx : Int32} {yy : Int32} {tn : Int32} {r : Int32} (h : pR_pitch zr x y xx yy tn r u) : gA u = gA zr := by
  rcases h with ⟨_, _, rfl⟩ | ⟨_, _, _, _, rfl⟩ | ⟨_, _, _, _, _, rfl⟩ | ⟨_, _, _, _, _, _, _, _, _, rfl⟩ | ⟨_, _, _, _, _, _, _, _, rfl⟩ | ⟨_, _, _, _, _, _, _, _, _, rfl⟩ | ⟨_, _, _, _, _, _, rfl⟩ | ⟨_, _, _, rfl⟩
  all_goals rfl
theorem frAC_auction {zc u : CS} {pp : Int32} {sv : Int32} {r : Int32} (h : pC_auction zc pp sv r u) : fA u = fA zc := by
  rcases h with ⟨_, _, rfl⟩ | ⟨_, _, _, _, _, _, _, _, rfl⟩ | ⟨_, _, _, _, _, _, _, rfl⟩ | ⟨_, _, _, _, _, _, _, rfl⟩ | ⟨_, _, _, _, _, _, _, rfl⟩ | ⟨_, _, _, _, _, _, rfl⟩ | ⟨_, _, _, _, _, _, rfl⟩
  all_goals rfl
theorem frAR_auction {zr u : RS2} {pp : Int32} {sv : Int32} {r : Int32} (h : pR_auction zr pp sv r u) : gA u = gA zr := by
  rcases h with ⟨_, _, rfl⟩ | ⟨_, _, _, _, _, _, _, _, rfl⟩ | ⟨_, _, _, _, _, _, _, _, _, rfl⟩ | ⟨_, _, _, _, _, _, _, _, _, rfl⟩ | ⟨_, _, _, _, _, rfl⟩
  all_goals rfl
theorem frAC_bid {zc u : CS} {g : Int32} {sv : Int32} {r : Int32} (h : pC_bid zc g sv r u) : fA u = fA zc := by
  rcases h with ⟨_, _, rfl⟩ | ⟨_, _, _, _, _, rfl⟩ | ⟨_, _, _, _, _, _, _, _, _, _, _, rfl⟩ | ⟨_, _, _, _, _, _, _, _, _, _, _, rfl⟩ | ⟨_, _, _, _, _, _, _, _, _, _, rfl⟩ | ⟨_, _, _, _, _, _, _, _, rfl⟩ | ⟨_, _, _, _, _, _, _, _, _, _, _, rfl⟩ | ⟨_, _, _, _, _, _, _, _, _, _, _, rfl⟩ | ⟨_, _, _, _, _, _, _, _, _, _, rfl⟩ | ⟨_, _, _, _, _, _, _, _, rfl⟩ | ⟨_, _, _, _, _, _, _, _, _, _, _, rfl⟩ | ⟨_, _, _, _, _, _, _, _, _, _, _, rfl⟩ | ⟨_, _, _, _, _, _, _, _, _, _, rfl⟩ | ⟨_, _, _, _, _, _, _, _, rfl⟩ | ⟨_, _, _, _, _, _, _, _, _, rfl⟩ | ⟨_, _, _, _, _, _, _, _, _, _, _, rfl⟩ | ⟨_, _, _, _, _, _, _, _, _, _, _, rfl⟩ | ⟨_, _, _, _, _, _, _, _, _, _, rfl⟩ | ⟨_, _, _, _, _, _, _, _, rfl⟩ | ⟨_, _, _, _, _, _, _, _, _, rfl⟩ | ⟨_, _, _, _, _, _, _, _, _, _, _, rfl⟩ | ⟨_, _, _, _, _, _, _, _, _, _, _, rfl⟩ | ⟨_, _, _, _, _, _, _, _, _, _, rfl⟩ | ⟨_, _, _, _, _, _, _, _, rfl⟩ | ⟨_, _, _, _, _, _, _, _, _, rfl⟩ | ⟨_, _, _, _, _, _, _, _, _, _, _, rfl⟩ | ⟨_, _, _, _, _, _, _, _, _, _, _, rfl⟩ | ⟨_, _, _, _, _, _, _, _, _, _, rfl⟩ | ⟨_, _, _, _, _, _, _, _, rfl⟩
  all_goals rfl
theorem frAR_bid {zr u : RS2} {g : Int32} {sv : Int32} {r : Int32} (h : pR_bid zr g sv r u) : gA u = gA zr := by
  rcases h with ⟨_, _, rfl⟩ | ⟨_, _, _, _, _, _, _, _, rfl⟩ | ⟨_, _, _, _, _, _, _, _, _, _, rfl⟩ | ⟨_, _, _, _, _, _, _, _, _, _, rfl⟩ | ⟨_, _, _, _, _, _, _, _, _, rfl⟩ | ⟨_, _, _, _, _, _, _, rfl⟩ | ⟨_, _, _, _, _, _, _, _, rfl⟩ | ⟨_, _, _, _, _, _, _, _, _, _, rfl⟩ | ⟨_, _, _, _, _, _, _, _, _, _, rfl⟩ | ⟨_, _, _, _, _, _, _, _, _, rfl⟩ | ⟨_, _, _, _, _, _, _, rfl⟩ | ⟨_, _, _, _, _, rfl⟩
  all_goals rfl
theorem frAC_strike {zc u : CS} {r : Int32} (h : pC_strike zc r u) : fA u = fA zc := by
  rcases h with ⟨_, _, rfl⟩ | ⟨_, _, _, rfl⟩ | ⟨_, _, _, _, _, _, _, _, _, _, _, rfl⟩ | ⟨_, _, _, _, _, rfl⟩ | ⟨_, _, _, _, _, _, _, _, _, _, _, rfl⟩ | ⟨_, _, _, _, _, rfl⟩ | ⟨_, _, _, _, _, _, _, _, _, _, _, rfl⟩ | ⟨_, _, _, _, _, rfl⟩
  all_goals rfl
theorem frAR_strike {zr u : RS2} {r : Int32} (h : pR_strike zr r u) : gA u = gA zr := by
  rcases h with ⟨_, _, _, rfl⟩ | ⟨_, _, _, _, _, _, _, _, _, rfl⟩ | ⟨_, _, _, _, _, _, _, _, rfl⟩ | ⟨_, _, _, _, _, _, _, rfl⟩
  all_goals rfl
theorem frAC_foretold {zc u : CS} {pp : Int32} {wh : Int32} {r : Int64} (h : pC_foretold zc pp wh r u) : fA u = fA zc := by
  rcases h with ⟨_, _, rfl⟩ | ⟨_, _, _, _, _, _, rfl⟩ | ⟨_, _, _, _, _, _, rfl⟩ | ⟨_, _, _, _, _, rfl⟩
  all_goals rfl
theorem frAR_foretold {zr u : RS2} {pp : Int32} {wh : Int32} {r : Int64} (h : pR_foretold zr pp wh r u) : gA u = gA zr := by
  rcases h with ⟨_, _, rfl⟩ | ⟨_, _, _, _, _, _, rfl⟩ | ⟨_, _, _, _, _, _, rfl⟩ | ⟨_, _, _, _, _, rfl⟩
  all_goals rfl
theorem frAC_sheet {zc u : CS} {k : Int32} {ln : Int32} {n : Int32} {r : Int32} (h : pC_sheet zc k ln n r u) : fA u = fA zc := by
  rcases h with ⟨_, _, rfl⟩ | ⟨_, _, _, _, _, rfl⟩ | ⟨_, _, _, _, _, _, _, rfl⟩ | ⟨_, _, _, _, _, _, _, rfl⟩ | ⟨_, _, _, _, _, _, rfl⟩
  all_goals rfl
theorem frAR_sheet {zr u : RS2} {k : Int32} {ln : Int32} {n : Int32} {r : Int32} (h : pR_sheet zr k ln n r u) : gA u = gA zr := by
  rcases h with ⟨_, _, rfl⟩ | ⟨_, _, _, _, _, rfl⟩ | ⟨_, _, _, _, _, _, _, _, _, _, rfl⟩ | ⟨_, _, _, _, _, _, _, rfl⟩ | ⟨_, _, _, _, _, _, rfl⟩
  all_goals rfl
theorem frAC_lose {zc u : CS} {k : Int32} {r : Int32} (h : pC_lose zc k r u) : fA u = fA zc := by
  rcases h with ⟨_, _, rfl⟩ | ⟨_, _, _, _, _, rfl⟩ | ⟨_, _, _, _, _, rfl⟩
  all_goals rfl
theorem frAR_lose {zr u : RS2} {k : Int32} {r : Int32} (h : pR_lose zr k r u) : gA u = gA zr := by
  rcases h with ⟨_, _, rfl⟩ | ⟨_, _, _, _, _, rfl⟩ | ⟨_, _, _, _, _, rfl⟩
  all_goals rfl
theorem frAC_put {zc u : CS} {k : Int32} {ix : Int32} {v : Int32} {r : Int32} (h : pC_put zc k ix v r u) : fA u = fA zc := by
  rcases h with ⟨_, _, rfl⟩ | ⟨_, _, _, _, _, _, rfl⟩ | ⟨_, _, _, _, _, _, rfl⟩ | ⟨_, _, _, _, _, rfl⟩
  all_goals rfl
theorem frAR_put {zr u : RS2} {k : Int32} {i : Int32} {v : Int32} {r : Int32} (h : pR_put zr k i v r u) : gA u = gA zr := by
  rcases h with ⟨_, _, rfl⟩ | ⟨_, _, _, _, _, _, _, _, _, _, rfl⟩ | ⟨_, _, _, _, _, _, _, _, _, _, rfl⟩ | ⟨_, _, _, _, _, _, _, _, _, rfl⟩ | ⟨_, _, _, _, _, rfl⟩
  all_goals rfl
theorem frAC_cell {zc u : CS} {k : Int32} {ix : Int32} {ln : Int32} {r : Int64} (h : pC_cell zc k ix ln r u) : fA u = fA zc := by
  rcases h with ⟨_, _, rfl⟩ | ⟨_, _, _, _, _, _, rfl⟩ | ⟨_, _, _, _, _, _, _, _, rfl⟩ | ⟨_, _, _, _, _, _, _, _, rfl⟩ | ⟨_, _, _, _, _, _, _, rfl⟩ | ⟨_, _, _, _, _, rfl⟩
  all_goals rfl
theorem frAR_cell {zr u : RS2} {k : Int32} {i : Int32} {ln : Int32} {r : Int64} (h : pR_cell zr k i ln r u) : gA u = gA zr := by
  rcases h with ⟨_, _, rfl⟩ | ⟨_, _, _, _, _, _, _, _, _, _, rfl⟩ | ⟨_, _, _, _, _, _, _, rfl⟩ | ⟨_, _, _, _, _, _, _, _, _, _, _, rfl⟩ | ⟨_, _, _, _, _, _, _, _, rfl⟩ | ⟨_, _, _, _, _, _, _, rfl⟩ | ⟨_, _, _, _, _, rfl⟩
  all_goals rfl
theorem frAC_find {zc u : CS} {x : Int32} {y : Int32} {lo : Int32} {hi : Int32} {r : Int32} (h : pC_find zc x y lo hi r u) : fA u = fA zc := by
  rcases h with ⟨_, _, _, rfl⟩ | ⟨_, _, _, _, rfl⟩ | ⟨_, _, _, _, _, _, _, _, _, _, _, _, _, _, _, rfl⟩ | ⟨_, _, _, _, _, rfl⟩ | ⟨_, _, rfl⟩
  all_goals rfl
theorem frAR_find {zr u : RS2} {x : Int32} {y : Int32} {lo : Int32} {hi : Int32} {r : Int32} (h : pR_find zr x y lo hi r u) : gA u = gA zr := by
  rcases h with ⟨_, _, _, rfl⟩ | ⟨_, _, _, _, _, _, _, _, _, _, _, _, _, _, _, _, _, _, _, rfl⟩ | ⟨_, _, _, _, rfl⟩ | ⟨_, _, rfl⟩
  all_goals rfl
theorem frAC_rise {zc u : CS} {dd : Int32} {r : Int32} (h : pC_rise zc dd r u) : fA u = fA zc := by
  rcases h with ⟨_, _, _, _, _, _, _, _, _, _, rfl⟩ | ⟨_, _, _, rfl⟩ | ⟨_, _, rfl⟩
  all_goals rfl
theorem frAR_rise {zr u : RS2} {dd : Int32} {r : Int32} (h : pR_rise zr dd r u) : gA u = gA zr := by
  rcases h with ⟨_, _, _, _, _, _, _, _, _, _, _, rfl⟩ | ⟨_, _, _, rfl⟩ | ⟨_, _, rfl⟩
  all_goals rfl
theorem frAC_suspects {zc u : CS} {r : Int32} (h : pC_suspects zc r u) : fA u = fA zc := by
  rcases h with ⟨_, rfl⟩
  all_goals rfl
theorem frAR_suspects {zr u : RS2} {r : Int32} (h : pR_suspects zr r u) : gA u = gA zr := by
  rcases h with ⟨_, rfl⟩
  all_goals rfl
theorem frAC_suspect {zc u : CS} {ix : Int32} {r : Int32} (h : pC_suspect zc ix r u) : fA u = fA zc := by
  rcases h with ⟨_, _, rfl⟩ | ⟨_, _, _, _, _, rfl⟩
  all_goals rfl
theorem frAR_suspect {zr u : RS2} {ix : Int32} {r : Int32} (h : pR_suspect zr ix r u) : gA u = gA zr := by
  rcases h with ⟨_, _, rfl⟩ | ⟨_, _, _, _, _, rfl⟩
  all_goals rfl
theorem frAC_skill {zc u : CS} {g : Int32} {wh : Int32} {r : Int64} (h : pC_skill zc g wh r u) : fA u = fA zc := by
  rcases h with ⟨_, _, rfl⟩ | ⟨_, _, _, _, _, _, _, _, _, rfl⟩ | ⟨_, _, _, _, _, _, _, _, _, rfl⟩ | ⟨_, _, _, _, _, _, _, _, _, rfl⟩ | ⟨_, _, _, _, _, _, _, _, _, rfl⟩ | ⟨_, _, _, _, _, rfl⟩
  all_goals rfl
theorem frAR_skill {zr u : RS2} {g : Int32} {wh : Int32} {r : Int64} (h : pR_skill zr g wh r u) : gA u = gA zr := by
  rcases h with ⟨_, _, rfl⟩ | ⟨_, _, _, _, _, _, _, _, _, rfl⟩ | ⟨_, _, _, _, _, _, _, _, _, rfl⟩ | ⟨_, _, _, _, _, _, rfl⟩ | ⟨_, _, _, _, _, rfl⟩
  all_goals rfl
theorem frAC_copy {zc u : CS} {k : Int32} {ix : Int32} {ot : Int32} {jx : Int32} {n : Int32} {r : Int32} (h : pC_copy zc k ix ot jx n r u) : fA u = fA zc := by
  rcases h with ⟨_, _, _, rfl⟩ | ⟨_, _, _, _, _, rfl⟩ | ⟨_, _, _, _, _, rfl⟩ | ⟨_, _, _, _, _, _, rfl⟩ | ⟨_, _, _, _, _, _, _, _, _, rfl⟩ | ⟨_, _, _, _, _, _, _, _, _, _, _, _, _, _, _, _, _, _, rfl⟩ | ⟨_, _, _, _, _, _, _, _, _, _, rfl⟩ | ⟨_, _, _, _, _, _, _, _, rfl⟩ | ⟨_, _, _, _, _, _, _, rfl⟩ | ⟨_, _, _, _, _, _, _, _, _, rfl⟩ | ⟨_, _, _, _, _, _, _, _, _, _, _, _, rfl⟩ | ⟨_, _, _, _, _, _, _, _, _, _, _, _, _, _, _, _, _, _, _, _, _, rfl⟩ | ⟨_, _, _, _, _, _, _, _, _, _, _, _, _, rfl⟩ | ⟨_, _, _, _, _, _, _, _, _, _, _, rfl⟩ | ⟨_, _, _, _, _, _, _, _, _, _, rfl⟩
  all_goals rfl
theorem frAR_copy {zr u : RS2} {k : Int32} {ix : Int32} {ot : Int32} {jx : Int32} {n : Int32} {r : Int32} (h : pR_copy zr k ix ot jx n r u) : gA u = gA zr := by
  rcases h with ⟨_, _, rfl⟩ | ⟨_, _, _, _, _, rfl⟩ | ⟨_, _, _, _, _, _, _, _, rfl⟩ | ⟨_, _, _, _, _, _, _, _, _, _, _, rfl⟩ | ⟨_, _, _, _, _, _, _, _, _, _, _, _, _, _, _, _, _, _, _, _, rfl⟩ | ⟨_, _, _, _, _, _, _, _, _, _, _, _, rfl⟩ | ⟨_, _, _, _, _, _, _, _, _, _, rfl⟩ | ⟨_, _, _, _, _, _, _, _, _, rfl⟩
  all_goals rfl
theorem frAC_chart {zc u : CS} {k : Int32} {ln : Int32} {ix : Int32} {n : Int32} {sv : Int32} {r : Int32} (h : pC_chart zc k ln ix n sv r u) : fA u = fA zc := by
  rcases h with ⟨_, _, rfl⟩ | ⟨_, _, _, _, _, _, _, _, _, _, _, _, _, _, _, _, _, _, rfl⟩ | ⟨_, _, _, _, _, _, _, _, _, _, _, _, _, _, _, _, _, _, _, _, _, _, _, _, _, _, _, _, _, rfl⟩ | ⟨_, _, _, _, _, _, _, _, _, _, _, _, _, _, _, _, _, _, rfl⟩ | ⟨_, _, _, _, _, _, _, rfl⟩ | ⟨_, _, _, _, _, _, rfl⟩ | ⟨_, _, _, _, _, rfl⟩
  all_goals rfl
theorem frAR_chart {zr u : RS2} {k : Int32} {ln : Int32} {ix : Int32} {nq : Int32} {sv : Int32} {r : Int32} (h : pR_chart zr k ln ix nq sv r u) : gA u = gA zr := by
  rcases h with ⟨_, _, rfl⟩ | ⟨_, _, _, _, _, _, _, _, _, _, rfl⟩ | ⟨_, _, _, _, _, _, _, _, _, _, _, _, _, _, _, _, _, _, _, _, _, _, _, _, _, _, _, _, _, _, _, _, rfl⟩ | ⟨_, _, _, _, _, _, _, _, _, _, _, _, _, _, _, _, _, _, _, _, _, _, _, _, _, _, rfl⟩ | ⟨_, _, _, _, _, _, _, _, _, _, _, rfl⟩ | ⟨_, _, _, _, _, _, _, _, _, rfl⟩ | ⟨_, _, _, _, _, _, _, _, rfl⟩ | ⟨_, _, _, _, _, _, _, _, _, _, _, rfl⟩ | ⟨_, _, _, _, _, _, _, _, _, _, _, _, _, _, _, _, _, _, _, _, _, _, _, _, _, _, _, _, _, _, _, _, _, rfl⟩ | ⟨_, _, _, _, _, _, _, _, _, _, _, _, _, _, _, _, _, _, _, _, _, _, _, _, _, _, _, rfl⟩ | ⟨_, _, _, _, _, _, _, _, _, _, _, _, rfl⟩ | ⟨_, _, _, _, _, _, _, _, _, _, rfl⟩ | ⟨_, _, _, _, _, _, _, _, _, rfl⟩ | ⟨_, _, _, _, _, _, _, _, rfl⟩ | ⟨_, _, _, _, _, _, rfl⟩ | ⟨_, _, _, _, _, rfl⟩
  all_goals rfl
theorem stA_trace {zc u : CS} {zr w9 : RS2} {r r' : Int32} (h : relA zc zr) (hc : pC_trace zc r u) (hr : pR_trace zr r' w9) : relA u w9 := relA_of (frAC_trace hc) (frAR_trace hr) h
theorem stA_fault {zc u : CS} {zr w9 : RS2} {r r' : Int32} (h : relA zc zr) (hc : pC_fault zc r u) (hr : pR_fault zr r' w9) : relA u w9 := relA_of (frAC_fault hc) (frAR_fault hr) h
theorem stA_told {zc u : CS} {zr w9 : RS2} {a0 : Int32} {r r' : Int32} (h : relA zc zr) (hc : pC_told zc a0 r u) (hr : pR_told zr a0 r' w9) : relA u w9 := relA_of (frAC_told hc) (frAR_told hr) h
theorem stA_good {zc u : CS} {zr w9 : RS2} {x : Int32} {y : Int32} {wh : Int32} {r r' : Int32} (h : relA zc zr) (hc : pC_good zc x y wh r u) (hr : pR_good zr x y wh r' w9) : relA u w9 := relA_of (frAC_good hc) (frAR_good hr) h
theorem stA_money {zc u : CS} {zr w9 : RS2} {t : Int32} {wh : Int32} {r r' : Int64} (h : relA zc zr) (hc : pC_money zc t wh r u) (hr : pR_money zr t wh r' w9) : relA u w9 := relA_of (frAC_money hc) (frAR_money hr) h
theorem stA_spend {zc u : CS} {zr w9 : RS2} {t : Int32} {wh : Int32} {pn : Int32} {r r' : Int64} (h : relA zc zr) (hc : pC_spend zc t wh pn r u) (hr : pR_spend zr t wh pn r' w9) : relA u w9 := relA_of (frAC_spend hc) (frAR_spend hr) h
theorem stA_debt {zc u : CS} {zr w9 : RS2} {g : Int32} {r r' : Int64} (h : relA zc zr) (hc : pC_debt zc g r u) (hr : pR_debt zr g r' w9) : relA u w9 := relA_of (frAC_debt hc) (frAR_debt hr) h
theorem stA_as {zc u : CS} {zr w9 : RS2} {g : Int32} {k : Int32} {r r' : Int32} (h : relA zc zr) (hc : pC_as zc g k r u) (hr : pR_as zr g k r' w9) : relA u w9 := relA_of (frAC_as hc) (frAR_as hr) h
theorem stA_taken {zc u : CS} {zr w9 : RS2} {t : Int32} {wh : Int32} {r r' : Int32} (h : relA zc zr) (hc : pC_taken zc t wh r u) (hr : pR_taken zr t wh r' w9) : relA u w9 := relA_of (frAC_taken hc) (frAR_taken hr) h
theorem stA_settle {zc u : CS} {zr w9 : RS2} {t : Int32} {r r' : Int64} (h : relA zc zr) (hc : pC_settle zc t r u) (hr : pR_settle zr t r' w9) : relA u w9 := relA_of (frAC_settle hc) (frAR_settle hr) h
theorem stA_about {zc u : CS} {zr w9 : RS2} {pp : Int32} {wh : Int32} {r r' : Int32} (h : relA zc zr) (hc : pC_about zc pp wh r u) (hr : pR_about zr pp wh r' w9) : relA u w9 := relA_of (frAC_about hc) (frAR_about hr) h
theorem stA_parcel {zc u : CS} {zr w9 : RS2} {t : Int32} {tn : Int32} {gd : Int32} {r r' : Int32} (h : relA zc zr) (hc : pC_parcel zc t tn gd r u) (hr : pR_parcel zr t tn gd r' w9) : relA u w9 := relA_of (frAC_parcel hc) (frAR_parcel hr) h
theorem stA_pitch {zc u : CS} {zr w9 : RS2} {x : Int32} {y : Int32} {xx : Int32} {yy : Int32} {tn : Int32} {r r' : Int32} (h : relA zc zr) (hc : pC_pitch zc x y xx yy tn r u) (hr : pR_pitch zr x y xx yy tn r' w9) : relA u w9 := relA_of (frAC_pitch hc) (frAR_pitch hr) h
theorem stA_auction {zc u : CS} {zr w9 : RS2} {pp : Int32} {sv : Int32} {r r' : Int32} (h : relA zc zr) (hc : pC_auction zc pp sv r u) (hr : pR_auction zr pp sv r' w9) : relA u w9 := relA_of (frAC_auction hc) (frAR_auction hr) h
theorem stA_bid {zc u : CS} {zr w9 : RS2} {g : Int32} {sv : Int32} {r r' : Int32} (h : relA zc zr) (hc : pC_bid zc g sv r u) (hr : pR_bid zr g sv r' w9) : relA u w9 := relA_of (frAC_bid hc) (frAR_bid hr) h
theorem stA_strike {zc u : CS} {zr w9 : RS2} {r r' : Int32} (h : relA zc zr) (hc : pC_strike zc r u) (hr : pR_strike zr r' w9) : relA u w9 := relA_of (frAC_strike hc) (frAR_strike hr) h
theorem stA_foretold {zc u : CS} {zr w9 : RS2} {pp : Int32} {wh : Int32} {r r' : Int64} (h : relA zc zr) (hc : pC_foretold zc pp wh r u) (hr : pR_foretold zr pp wh r' w9) : relA u w9 := relA_of (frAC_foretold hc) (frAR_foretold hr) h
theorem stA_sheet {zc u : CS} {zr w9 : RS2} {k : Int32} {ln : Int32} {n : Int32} {r r' : Int32} (h : relA zc zr) (hc : pC_sheet zc k ln n r u) (hr : pR_sheet zr k ln n r' w9) : relA u w9 := relA_of (frAC_sheet hc) (frAR_sheet hr) h
theorem stA_lose {zc u : CS} {zr w9 : RS2} {k : Int32} {r r' : Int32} (h : relA zc zr) (hc : pC_lose zc k r u) (hr : pR_lose zr k r' w9) : relA u w9 := relA_of (frAC_lose hc) (frAR_lose hr) h
theorem stA_put {zc u : CS} {zr w9 : RS2} {k : Int32} {ix : Int32} {v : Int32} {r r' : Int32} (h : relA zc zr) (hc : pC_put zc k ix v r u) (hr : pR_put zr k ix v r' w9) : relA u w9 := relA_of (frAC_put hc) (frAR_put hr) h
theorem stA_cell {zc u : CS} {zr w9 : RS2} {k : Int32} {ix : Int32} {ln : Int32} {r r' : Int64} (h : relA zc zr) (hc : pC_cell zc k ix ln r u) (hr : pR_cell zr k ix ln r' w9) : relA u w9 := relA_of (frAC_cell hc) (frAR_cell hr) h
theorem stA_find {zc u : CS} {zr w9 : RS2} {x : Int32} {y : Int32} {lo : Int32} {hi : Int32} {r r' : Int32} (h : relA zc zr) (hc : pC_find zc x y lo hi r u) (hr : pR_find zr x y lo hi r' w9) : relA u w9 := relA_of (frAC_find hc) (frAR_find hr) h
theorem stA_rise {zc u : CS} {zr w9 : RS2} {dd : Int32} {r r' : Int32} (h : relA zc zr) (hc : pC_rise zc dd r u) (hr : pR_rise zr dd r' w9) : relA u w9 := relA_of (frAC_rise hc) (frAR_rise hr) h
theorem stA_suspects {zc u : CS} {zr w9 : RS2} {r r' : Int32} (h : relA zc zr) (hc : pC_suspects zc r u) (hr : pR_suspects zr r' w9) : relA u w9 := relA_of (frAC_suspects hc) (frAR_suspects hr) h
theorem stA_suspect {zc u : CS} {zr w9 : RS2} {ix : Int32} {r r' : Int32} (h : relA zc zr) (hc : pC_suspect zc ix r u) (hr : pR_suspect zr ix r' w9) : relA u w9 := relA_of (frAC_suspect hc) (frAR_suspect hr) h
theorem stA_skill {zc u : CS} {zr w9 : RS2} {g : Int32} {wh : Int32} {r r' : Int64} (h : relA zc zr) (hc : pC_skill zc g wh r u) (hr : pR_skill zr g wh r' w9) : relA u w9 := relA_of (frAC_skill hc) (frAR_skill hr) h
theorem stA_copy {zc u : CS} {zr w9 : RS2} {k : Int32} {ix : Int32} {ot : Int32} {jx : Int32} {n : Int32} {r r' : Int32} (h : relA zc zr) (hc : pC_copy zc k ix ot jx n r u) (hr : pR_copy zr k ix ot jx n r' w9) : relA u w9 := relA_of (frAC_copy hc) (frAR_copy hr) h
theorem stA_chart {zc u : CS} {zr w9 : RS2} {k : Int32} {ln : Int32} {ix : Int32} {n : Int32} {sv : Int32} {r r' : Int32} (h : relA zc zr) (hc : pC_chart zc k ln ix n sv r u) (hr : pR_chart zr k ln ix n sv r' w9) : relA u w9 := relA_of (frAC_chart hc) (frAR_chart hr) h
theorem relA_n {zc : CS} {zr : RS2} (h : relA zc zr) : rs_n zr 1 = cs_n zc 1 := h.1.symm
theorem relA_k {zc : CS} {zr : RS2} (h : relA zc zr) {g : Nat} (hg : g < cs_n zc 1) : rs_I zr 18 g = kI (cs_N zc 1 g) := h.2.1 g hg
theorem relA_t {zc : CS} {zr : RS2} (h : relA zc zr) : rs_i zr 38 = cs_i zc 1 := h.2.2.symm
theorem kI1 : kI 1 = 1 := rfl
theorem kI2 : kI 2 = 0 := rfl
theorem kI4 : kI 4 = 2 := rfl
/-- the same index in both -/
theorem ix_eq {i j n : Nat} (hn : n ≤ 100) (hi : i < n) (hj : j < n) (h : nI i = nI j) : i = j := (nI_eq (by omega) (by omega)).mp h
theorem stA_trace' {zc u : CS} {zr v : RS2} {r r' : Int32} (h : relA zc zr) (hc : pC_trace zc r u) (hr : pR_trace zr r' v) : r = r' := by
  obtain ⟨rfl, rfl⟩ := hc
  obtain ⟨rfl, rfl⟩ := hr
  exact h.2.2
theorem stA_gang {zc u : CS} {zr v : RS2} {k r r' : Int32} (hI : invC zc) (h : relA zc zr) (hc : pC_gang zc k r u) (hr : pR_gang zr k r' v) : relA u v ∧ r = r' := by
  have hn := relA_n h
  have h8 : cs_n zc 1 ≤ 8 := hI.1.2.1
  have e8 : ∀ n, n ≤ 8 → (nI n < 8 ↔ ¬ nI n = 8) := by decide
  have new : ∀ (kk : Nat) (q : Nat), kI kk = k → relA (cs_i zc, va_up (cs_n zc) 1 (cs_n zc 1 + 1), va_up (va_up (cs_I zc) 21 (va_up (cs_I zc 21) (cs_n zc 1) 0)) 22 (va_up (cs_I zc 22) (cs_n zc 1) 0), va_up (cs_L zc) 0 (va_up (cs_L zc 0) (cs_n zc 1) 0), va_up (cs_N zc) 1 (va_up (cs_N zc 1) (cs_n zc 1) kk), cs_S zc, va_up (cs_X zc) 2 (va_up (cs_X zc 2) (cs_n zc 1) q)) (rs_i zr, va_up (rs_n zr) 1 (rs_n zr 1 + 1), va_up (rs_I zr) 18 (upd (rs_I zr 18) (rs_n zr 1) k), rs_L zr) := by
    intro kk q hk
    refine ⟨congrArg (· + 1) h.1, fun g hg => ?_, h.2.2⟩
    have hg : g < cs_n zc 1 + 1 := hg
    show upd (rs_I zr 18) (rs_n zr 1) k g = kI (va_up (cs_N zc 1) (cs_n zc 1) kk g)
    by_cases e : g = cs_n zc 1
    · rw [e, hn, pk_us]
      simp [va_up, hk]
    · rw [pk_un (by rw [hn]; exact e)]
      simp only [va_up, e, if_false]
      exact relA_k h (by omega)
  rcases hr with ⟨b1, b2, b3, rfl, rfl⟩ | ⟨b1, b2, rfl, rfl⟩ | ⟨b1, rfl, rfl⟩
  · rw [hn]
    rcases hc with ⟨a1, a2, a3, rfl, q, rfl, rfl⟩ | ⟨a1, a2, a3, rfl, q, rfl, rfl⟩ | ⟨a1, a2, a3, rfl, q, rfl, rfl⟩ | ⟨a1, a2, rfl, rfl⟩ | ⟨a1, rfl, rfl⟩
    · exact ⟨hn ▸ new 2 q rfl, rfl⟩
    · exact ⟨hn ▸ new 1 q rfl, rfl⟩
    · exact ⟨hn ▸ new 4 q rfl, rfl⟩
    · exact absurd ((e8 _ h8).mpr (hn ▸ b2)) a2
    · exact absurd b1 a1
  · rw [hn] at b2
    rcases hc with ⟨a1, a2, a3, rfl, q, rfl, rfl⟩ | ⟨a1, a2, a3, rfl, q, rfl, rfl⟩ | ⟨a1, a2, a3, rfl, q, rfl, rfl⟩ | ⟨a1, a2, rfl, rfl⟩ | ⟨a1, rfl, rfl⟩
    · exact absurd b2 ((e8 _ h8).mp a2)
    · exact absurd b2 ((e8 _ h8).mp a2)
    · exact absurd b2 ((e8 _ h8).mp a2)
    · exact ⟨h, rfl⟩
    · exact absurd b1 a1
  · rcases hc with ⟨a1, a2, a3, rfl, q, rfl, rfl⟩ | ⟨a1, a2, a3, rfl, q, rfl, rfl⟩ | ⟨a1, a2, a3, rfl, q, rfl, rfl⟩ | ⟨a1, a2, rfl, rfl⟩ | ⟨a1, rfl, rfl⟩
    · exact absurd a1 b1
    · exact absurd a1 b1
    · exact absurd a1 b1
    · exact absurd a1 b1
    · exact ⟨h, rfl⟩
theorem relA_tr {zc : CS} {zr : RS2} (h : relA zc zr) {t : Int32} : relA (va_up (cs_i zc) 1 t, cs_n zc, cs_I zc, cs_L zc, cs_N zc, cs_S zc, cs_X zc) (va_up (rs_i zr) 38 t, rs_n zr, rs_I zr, rs_L zr) := ⟨h.1, h.2.1, rfl⟩
theorem stA_greet {zc u : CS} {zr v : RS2} {g r r' : Int32} (hI : invC zc) (h : relA zc zr) (hc : pC_greet zc g r u) (hr : pR_greet zr g r' v) : relA u v ∧ r = r' := by
  have hn := relA_n h
  have h8 : cs_n zc 1 ≤ 8 := hI.1.2.1
  have ht := relA_t h
  rcases hc with ⟨a1, rfl, rfl⟩ | ⟨jg, rfl, a1, a2, rfl, rfl⟩ | ⟨jg, rfl, a1, a2, rfl, rfl⟩ | ⟨jg, rfl, a1, a2, rfl, rfl⟩
  · rcases hr with ⟨b1, rfl, rfl⟩ | ⟨j, rfl, b1, _⟩ | ⟨j, rfl, b1, _⟩ | ⟨j, rfl, b1, _⟩ | ⟨j, rfl, b1, _⟩ | ⟨j, rfl, b1, _⟩
    · exact ⟨h, rfl⟩
    all_goals exact absurd rfl (a1 j (hn ▸ b1))
  all_goals
    have hk := relA_k h a1
    rw [a2] at hk
    rcases hr with ⟨b1, rfl, rfl⟩ | ⟨j, e, b1, c1, c2, c3, rfl, rfl⟩ | ⟨j, e, b1, c1, c2, c3, rfl, rfl⟩ | ⟨j, e, b1, c1, c2, c3, rfl, rfl⟩ | ⟨j, e, b1, c1, c2, c3, rfl, rfl⟩ | ⟨j, e, b1, c1, rfl, rfl⟩
    · exact absurd rfl (b1 jg (hn ▸ a1))
    all_goals
      obtain rfl := ix_eq (by omega) a1 (hn ▸ b1) e
      first
      | (rw [hk] at c1; exact absurd c1 (by decide))
      | (rw [hk] at c2; exact absurd c2 (by decide))
      | (rw [hk] at c3; exact absurd c3 (by decide))
      | exact ⟨by rw [ht]; exact relA_tr h, rfl⟩
theorem stA_as' {zc u : CS} {zr v : RS2} {g k r r' : Int32} (hI : invC zc) (h : relA zc zr) (hc : pC_as zc g k r u) (hr : pR_as zr g k r' v) : r = r' := by
  have hn := relA_n h
  have h8 : cs_n zc 1 ≤ 8 := hI.1.2.1
  have kk : (0 ≤ k ∧ k ≤ 2) → k = 0 ∨ k = 1 ∨ k = 2 := by
    rintro ⟨h1, h2⟩
    obtain ⟨n, hn, rfl⟩ := nI_of2 (x := k) (M := 2) (n := 2) (by decide) (Int32.not_lt.mpr h1) h2
    rcases (show n = 0 ∨ n = 1 ∨ n = 2 by omega) with rfl | rfl | rfl
    · exact Or.inl rfl
    · exact Or.inr (Or.inl rfl)
    · exact Or.inr (Or.inr rfl)
  rcases hr with ⟨b1, rfl, rfl⟩ | ⟨j, rfl, b1, b2, b3, rfl, rfl⟩ | ⟨j, rfl, b1, b2, b3, rfl, rfl⟩ | ⟨j, rfl, b1, b2, rfl, rfl⟩
  · rcases hc with ⟨a1, rfl, rfl⟩ | ⟨jg, rfl, a1, _⟩ | ⟨jg, rfl, a1, _⟩ | ⟨jg, rfl, a1, _⟩ | ⟨jg, rfl, a1, _⟩ | ⟨jg, rfl, a1, _⟩ | ⟨jg, rfl, a1, _⟩ | ⟨jg, rfl, a1, _⟩ | ⟨jg, rfl, a1, _⟩ | ⟨jg, rfl, a1, _⟩
    · rfl
    all_goals exact absurd rfl (b1 jg (hn ▸ a1))
  all_goals
    rcases hc with ⟨a1, rfl, rfl⟩ | ⟨jg, e, a1, a2, a3, a4, rfl, rfl⟩ | ⟨jg, e, a1, a2, a3, a4, rfl, rfl⟩ | ⟨jg, e, a1, a2, a3, rfl, rfl⟩ | ⟨jg, e, a1, a2, a3, a4, rfl, rfl⟩ | ⟨jg, e, a1, a2, a3, a4, rfl, rfl⟩ | ⟨jg, e, a1, a2, a3, rfl, rfl⟩ | ⟨jg, e, a1, a2, a3, a4, rfl, rfl⟩ | ⟨jg, e, a1, a2, a3, a4, rfl, rfl⟩ | ⟨jg, e, a1, a2, a3, rfl, rfl⟩
    · exact absurd rfl (a1 j (hn ▸ b1))
    all_goals
      obtain rfl := ix_eq (by omega) (hn ▸ b1) a1 e
      first
      | rfl
      | exact absurd b2 a3
      | exact absurd a3 b2
      | (have hk := relA_k h a1
         rw [a2] at hk
         rw [hk] at b3
         rcases kk a3 with rfl | rfl | rfl
         all_goals first | exact absurd b3 (by decide) | exact absurd a4 (by decide))
theorem stA_tell {zc u : CS} {zr v : RS2} {g r r' : Int32} (hI : invC zc) (h : relA zc zr) (hc : pC_tell zc g r u) (hr : pR_tell zr g r' v) : relA u v := by
  have hn := relA_n h
  have h8 : cs_n zc 1 ≤ 8 := hI.1.2.1
  have ht := relA_t h
  rcases hc with ⟨a1, rfl, rfl⟩ | ⟨jg, rfl, a1, a2, rfl, rfl⟩ | ⟨jg, rfl, a1, a2, rfl, rfl⟩ | ⟨jg, rfl, a1, a2, rfl, rfl⟩
  · rcases hr with ⟨b1, rfl, rfl⟩ | ⟨j, rfl, b1, _⟩ | ⟨j, rfl, b1, _⟩ | ⟨j, rfl, b1, _⟩ | ⟨j, rfl, b1, _⟩ | ⟨j, rfl, b1, _⟩ | ⟨j, rfl, b1, _⟩ | ⟨j, rfl, b1, _⟩ | ⟨j, rfl, b1, _⟩ | ⟨j, rfl, b1, _⟩
    · exact h
    all_goals exact absurd rfl (a1 j (hn ▸ b1))
  all_goals
    have hk := relA_k h a1
    rw [a2] at hk
    rcases hr with ⟨b1, rfl, rfl⟩ | ⟨j, e, b1, c1, c2, c3, rfl, rfl⟩ | ⟨j, e, b1, c1, c2, c3, rfl, rfl⟩ | ⟨j, e, b1, c1, c2, rfl, rfl⟩ | ⟨j, e, b1, c1, c2, c3, c4, rfl, rfl⟩ | ⟨j, e, b1, c1, c2, c3, c4, rfl, rfl⟩ | ⟨j, e, b1, c1, c2, c3, rfl, rfl⟩ | ⟨j, e, b1, c1, c2, c3, c4, rfl, rfl⟩ | ⟨j, e, b1, c1, c2, c3, c4, rfl, rfl⟩ | ⟨j, e, b1, c1, c2, c3, rfl, rfl⟩
    · exact absurd rfl (b1 jg (hn ▸ a1))
    all_goals
      obtain rfl := ix_eq (by omega) a1 (hn ▸ b1) e
      first
      | (rw [hk] at c1; exact absurd c1 (by decide))
      | (rw [hk] at c2; exact absurd c2 (by decide))
      | (rw [hk] at c3; exact absurd c3 (by decide))
      | (rw [ht]; exact relA_tr h)
