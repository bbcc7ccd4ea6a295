/-! layer A: gangs' kinds, the trace -/
def fA (z : CS) : Nat × (Nat → Nat) × Int32 := (cs_n z 1, cs_N z 1, cs_i z 1)
def gA (z : RS2) : Nat × (Nat → Int32) × Int32 := (rs_n z 1, rs_I z 18, rs_i z 38)
def kI (n : Nat) : Int32 := if n = 2 then 0 else if n = 1 then 1 else 2
def rA (a : Nat × (Nat → Nat) × Int32) (b : Nat × (Nat → Int32) × Int32) : Prop := a.1 = b.1 ∧ (∀ g, g < a.1 → b.2.1 g = kI (a.2.1 g)) ∧ a.2.2 = b.2.2
def relA (zc : CS) (zr : RS2) : Prop := rA (fA zc) (gA zr)
theorem relA_of {zc u : CS} {zr v : RS2} (h1 : fA u = fA zc) (h2 : gA v = gA zr) (h : relA zc zr) : relA u v := by
  unfold relA; rw [h1, h2]; exact h
theorem relA_0 {x : Nat → Nat → Nat} : relA (z0C x) z0R := ⟨rfl, fun g hg => absurd hg (Nat.not_lt_zero g), rfl⟩
theorem frAC_trace {zc u : CS} {r : Int32} (h : pC_trace zc r u) : fA u = fA zc := by
  rcases h with ⟨_, rfl⟩
  all_goals rfl
theorem frAR_trace {zr u : RS2} {r : Int32} (h : pR_trace zr r u) : gA u = gA zr := by
  rcases h with ⟨_, rfl⟩
  all_goals rfl
theorem frAC_fault {zc u : CS} {r : Int32} (h : pC_fault zc r u) : fA u = fA zc := by
  rcases h with ⟨_, rfl⟩
  all_goals rfl
theorem frAR_fault {zr u : RS2} {r : Int32} (h : pR_fault zr r u) : gA u = gA zr := by
  rcases h with ⟨_, rfl⟩
  all_goals rfl
theorem frAC_told {zc u : CS} {a0 : Int32} {r : Int32} (h : pC_told zc a0 r u) : fA u = fA zc := by
  rcases h with ⟨_, _, _, rfl⟩ | ⟨_, _, _, rfl⟩ | ⟨_, _, _, rfl⟩ | ⟨_, _, _, rfl⟩ | ⟨_, _, _, rfl⟩ | ⟨_, _, _, rfl⟩ | ⟨_, _, _, rfl⟩ | ⟨_, _, _, rfl⟩ | ⟨_, _, _, _, _, _, _, _, _, _, rfl⟩ | ⟨_, _, _, rfl⟩ | ⟨_, _, _, rfl⟩ | ⟨_, _, _, rfl⟩ | ⟨_, _, _, rfl⟩ | ⟨_, _, _, rfl⟩ | ⟨_, _, _, rfl⟩ | ⟨_, _, _, rfl⟩ | ⟨_, _, _, rfl⟩ | ⟨_, _, _, _, _, _, _, _, _, _, rfl⟩
  all_goals rfl
theorem frAR_told {zr u : RS2} {a0 : Int32} {r : Int32} (h : pR_told zr a0 r u) : gA u = gA zr := by
  rcases h with ⟨_, _, rfl⟩ | ⟨_, _, rfl⟩ | ⟨_, _, rfl⟩ | ⟨_, _, rfl⟩ | ⟨_, _, rfl⟩ | ⟨_, _, _, rfl⟩ | ⟨_, _, _, rfl⟩ | ⟨_, _, rfl⟩ | ⟨_, _, _, rfl⟩ | ⟨_, _, _, rfl⟩ | ⟨_, _, _, _, _, _, _, _, _, rfl⟩
  all_goals rfl
theorem frAC_good {zc u : CS} {x : Int32} {y : Int32} {wh : Int32} {r : Int32} (h : pC_good zc x y wh r u) : fA u = fA zc := by
  rcases h with ⟨_, _, _, _, rfl⟩ | ⟨_, _, _, _, rfl⟩ | ⟨_, _, _, rfl⟩ | ⟨_, _, rfl⟩
  all_goals rfl
theorem frAR_good {zr u : RS2} {x : Int32} {y : Int32} {wh : Int32} {r : Int32} (h : pR_good zr x y wh r u) : gA u = gA zr := by
  rcases h with ⟨_, _, _, _, rfl⟩ | ⟨_, _, _, _, rfl⟩ | ⟨_, _, _, rfl⟩ | ⟨_, _, rfl⟩
  all_goals rfl
theorem frAC_money {zc u : CS} {t : Int32} {wh : Int32} {r : Int64} (h : pC_money zc t wh r u) : fA u = fA zc := by
  rcases h with ⟨_, _, rfl⟩ | ⟨_, _, _, _, _, rfl⟩ | ⟨_, _, _, _, _, rfl⟩ | ⟨_, _, _, _, _, rfl⟩ | ⟨_, _, _, _, _, rfl⟩ | ⟨_, _, _, _, _, rfl⟩ | ⟨_, _, _, _, _, rfl⟩ | ⟨_, _, _, _, _, _, _, _, _, _, rfl⟩
  all_goals rfl
theorem frAR_money {zr u : RS2} {t : Int32} {wh : Int32} {r : Int64} (h : pR_money zr t wh r u) : gA u = gA zr := by
  rcases h with ⟨_, _, rfl⟩ | ⟨_, _, _, _, _, rfl⟩ | ⟨_, _, _, _, _, rfl⟩ | ⟨_, _, _, _, _, rfl⟩ | ⟨_, _, _, _, _, rfl⟩ | ⟨_, _, _, _, _, rfl⟩ | ⟨_, _, _, _, _, rfl⟩ | ⟨_, _, _, _, _, _, _, _, _, _, rfl⟩
  all_goals rfl
theorem frAC_spend {zc u : CS} {t : Int32} {wh : Int32} {pn : Int32} {r : Int64} (h : pC_spend zc t wh pn r u) : fA u = fA zc := by
  rcases h with ⟨_, _, rfl⟩ | ⟨_, _, _, _, _, rfl⟩ | ⟨_, _, _, _, _, _, _, _, rfl⟩ | ⟨_, _, _, _, _, _, _, _, rfl⟩ | ⟨_, _, _, _, _, _, _, rfl⟩ | ⟨_, _, _, _, _, _, rfl⟩
  all_goals rfl
theorem frAR_spend {zr u : RS2} {t : Int32} {wh : Int32} {pn : Int32} {r : Int64} (h : pR_spend zr t wh pn r u) : gA u = gA zr := by
  rcases h with ⟨_, _, rfl⟩ | ⟨_, _, _, _, _, rfl⟩ | ⟨_, _, _, _, _, _, rfl⟩ | ⟨_, _, _, _, _, _, _, _, _, _, rfl⟩ | ⟨_, _, _, _, _, _, _, _, _, _, rfl⟩ | ⟨_, _, _, _, _, _, _, _, _, _, rfl⟩ | ⟨_, _, _, _, _, _, _, _, _, _, rfl⟩ | ⟨_, _, _, _, _, _, _, _, _, _, rfl⟩ | ⟨_, _, _, _, _, _, _, _, _, _, rfl⟩ | ⟨_, _, _, _, _, _, _, _, _, _, rfl⟩ | ⟨_, _, _, _, _, _, _, _, _, _, rfl⟩ | ⟨_, _, _, _, _, _, _, rfl⟩
  all_goals rfl
theorem frAC_debt {zc u : CS} {g : Int32} {r : Int64} (h : pC_debt zc g r u) : fA u = fA zc := by
  rcases h with ⟨_, _, rfl⟩ | ⟨_, _, _, _, _, rfl⟩ | ⟨_, _, _, _, _, rfl⟩ | ⟨_, _, _, _, _, rfl⟩
  all_goals rfl
theorem frAR_debt {zr u : RS2} {g : Int32} {r : Int64} (h : pR_debt zr g r u) : gA u = gA zr := by
  rcases h with ⟨_, _, rfl⟩ | ⟨_, _, _, _, rfl⟩
  all_goals rfl
theorem frAC_as {zc u : CS} {g : Int32} {k : Int32} {r : Int32} (h : pC_as zc g k r u) : fA u = fA zc := by
  rcases h with ⟨_, _, rfl⟩ | ⟨_, _, _, _, _, _, _, rfl⟩ | ⟨_, _, _, _, _, _, _, rfl⟩ | ⟨_, _, _, _, _, _, rfl⟩ | ⟨_, _, _, _, _, _, _, rfl⟩ | ⟨_, _, _, _, _, _, _, rfl⟩ | ⟨_, _, _, _, _, _, rfl⟩ | ⟨_, _, _, _, _, _, _, rfl⟩ | ⟨_, _, _, _, _, _, _, rfl⟩ | ⟨_, _, _, _, _, _, rfl⟩
  all_goals rfl
theorem frAR_as {zr u : RS2} {g : Int32} {k : Int32} {r : Int32} (h : pR_as zr g k r u) : gA u = gA zr := by
  rcases h with ⟨_, _, rfl⟩ | ⟨_, _, _, _, _, _, rfl⟩ | ⟨_, _, _, _, _, _, rfl⟩ | ⟨_, _, _, _, _, rfl⟩
  all_goals rfl
theorem frAC_taken {zc u : CS} {t : Int32} {wh : Int32} {r : Int32} (h : pC_taken zc t wh r u) : fA u = fA zc := by
  rcases h with ⟨_, _, rfl⟩ | ⟨_, _, _, _, _, _, rfl⟩ | ⟨_, _, _, _, _, _, rfl⟩ | ⟨_, _, _, _, _, _, rfl⟩ | ⟨_, _, _, _, _, _, _, rfl⟩ | ⟨_, _, _, _, _, _, _, rfl⟩ | ⟨_, _, _, _, _, _, rfl⟩ | ⟨_, _, _, _, _, _, _, _, _, _, rfl⟩ | ⟨_, _, _, _, _, _, rfl⟩ | ⟨_, _, _, _, _, _, rfl⟩ | ⟨_, _, _, _, _, _, rfl⟩ | ⟨_, _, _, _, _, _, _, rfl⟩ | ⟨_, _, _, _, _, _, _, rfl⟩ | ⟨_, _, _, _, _, _, rfl⟩ | ⟨_, _, _, _, _, _, _, _, _, _, rfl⟩ | ⟨_, _, _, _, _, _, rfl⟩ | ⟨_, _, _, _, _, _, rfl⟩ | ⟨_, _, _, _, _, _, rfl⟩ | ⟨_, _, _, _, _, _, _, rfl⟩ | ⟨_, _, _, _, _, _, _, rfl⟩ | ⟨_, _, _, _, _, _, rfl⟩ | ⟨_, _, _, _, _, _, _, _, _, _, rfl⟩
  all_goals rfl
theorem frAR_taken {zr u : RS2} {t : Int32} {wh : Int32} {r : Int32} (h : pR_taken zr t wh r u) : gA u = gA zr := by
  rcases h with ⟨_, _, rfl⟩ | ⟨_, _, _, _, _, rfl⟩ | ⟨_, _, _, _, _, rfl⟩ | ⟨_, _, _, _, _, rfl⟩ | ⟨_, _, _, _, _, _, rfl⟩ | ⟨_, _, _, _, _, _, rfl⟩ | ⟨_, _, _, _, _, rfl⟩ | ⟨_, _, _, _, _, _, _, _, _, rfl⟩
  all_goals rfl
theorem frAC_settle {zc u : CS} {t : Int32} {r : Int64} (h : pC_settle zc t r u) : fA u = fA zc := by
  rcases h with ⟨_, _, rfl⟩ | ⟨_, _, _, _, _, _, rfl⟩ | ⟨_, _, _, _, _, _, rfl⟩ | ⟨_, _, _, _, _, _, rfl⟩ | ⟨_, _, _, _, _, _, rfl⟩ | ⟨_, _, _, _, _, _, rfl⟩ | ⟨_, _, _, _, _, _, rfl⟩
  all_goals rfl
theorem frAR_settle {zr u : RS2} {t : Int32} {r : Int64} (h : pR_settle zr t r u) : gA u = gA zr := by
  rcases h with ⟨_, _, rfl⟩ | ⟨_, _, _, _, _, _, _, _, _, _, _, _, rfl⟩ | ⟨_, _, _, _, _, _, _, _, _, _, _, _, rfl⟩ | ⟨_, _, _, _, _, _, _, _, _, _, _, _, rfl⟩ | ⟨_, _, _, _, _, _, _, _, _, _, _, _, rfl⟩ | ⟨_, _, _, _, _, _, _, _, _, _, _, _, rfl⟩ | ⟨_, _, _, _, _, _, _, _, _, _, _, _, rfl⟩ | ⟨_, _, _, _, _, _, _, _, _, _, _, _, rfl⟩ | ⟨_, _, _, _, _, _, _, _, _, _, _, _, rfl⟩ | ⟨_, _, _, _, _, _, _, _, _, _, _, _, rfl⟩ | ⟨_, _, _, _, _, _, _, _, _, _, _, _, rfl⟩ | ⟨_, _, _, _, _, _, _, _, _, _, _, _, rfl⟩ | ⟨_, _, _, _, _, _, _, _, _, _, _, _, rfl⟩ | ⟨_, _, _, _, _, _, _, _, _, _, _, _, rfl⟩ | ⟨_, _, _, _, _, _, _, _, _, _, _, _, rfl⟩ | ⟨_, _, _, _, _, _, _, _, _, _, _, _, rfl⟩ | ⟨_, _, _, _, _, _, _, _, _, _, _, _, rfl⟩ | ⟨_, _, _, _, _, rfl⟩
  all_goals rfl
theorem frAC_about {zc u : CS} {pp : Int32} {wh : Int32} {r : Int32} (h : pC_about zc pp wh r u) : fA u = fA zc := by
  rcases h with ⟨_, _, rfl⟩ | ⟨_, _, _, _, _, _, rfl⟩ | ⟨_, _, _, _, _, _, rfl⟩ | ⟨_, _, _, _, _, _, rfl⟩ | ⟨_, _, _, _, _, _, rfl⟩ | ⟨_, _, _, _, _, _, rfl⟩ | ⟨_, _, _, _, _, _, rfl⟩ | ⟨_, _, _, _, _, _, rfl⟩ | ⟨_, _, _, _, _, _, _, _, _, _, _, _, rfl⟩ | ⟨_, _, _, _, _, _, rfl⟩ | ⟨_, _, _, _, _, _, rfl⟩ | ⟨_, _, _, _, _, _, rfl⟩ | ⟨_, _, _, _, _, _, rfl⟩ | ⟨_, _, _, _, _, _, rfl⟩ | ⟨_, _, _, _, _, _, rfl⟩ | ⟨_, _, _, _, _, _, rfl⟩ | ⟨_, _, _, _, _, _, _, _, _, _, _, _, rfl⟩
  all_goals rfl
theorem frAR_about {zr u : RS2} {pp : Int32} {wh : Int32} {r : Int32} (h : pR_about zr pp wh r u) : gA u = gA zr := by
  rcases h with ⟨_, _, rfl⟩ | ⟨_, _, _, _, _, rfl⟩ | ⟨_, _, _, _, _, rfl⟩ | ⟨_, _, _, _, _, rfl⟩ | ⟨_, _, _, _, _, rfl⟩ | ⟨_, _, _, _, _, rfl⟩ | ⟨_, _, _, _, _, _, _, rfl⟩ | ⟨_, _, _, _, _, rfl⟩ | ⟨_, _, _, _, _, _, _, _, _, _, _, rfl⟩
  all_goals rfl
theorem frAC_parcel {zc u : CS} {t : Int32} {tn : Int32} {gd : Int32} {r : Int32} (h : pC_parcel zc t tn gd r u) : fA u = fA zc := by
  rcases h with ⟨_, _, rfl⟩ | ⟨_, _, _, _, _, rfl⟩ | ⟨_, _, _, _, _, _, _, _, _, _, rfl⟩ | ⟨_, _, _, _, _, _, _, _, rfl⟩ | ⟨_, _, _, _, _, _, _, rfl⟩ | ⟨_, _, _, _, _, _, rfl⟩
  all_goals rfl
theorem frAR_parcel {zr u : RS2} {t : Int32} {tn : Int32} {gd : Int32} {r : Int32} (h : pR_parcel zr t tn gd r u) : gA u = gA zr := by
  rcases h with ⟨_, _, rfl⟩ | ⟨_, _, _, _, _, rfl⟩ | ⟨_, _, _, _, _, _, _, _, _, rfl⟩ | ⟨_, _, _, _, _, _, _, _, rfl⟩ | ⟨_, _, _, _, _, _, _, rfl⟩ | ⟨_, _, _, _, _, _, rfl⟩
  all_goals rfl
theorem frAC_pitch {zc u : CS} {x : Int32} {y : Int32} {xx : Int32} {yy : Int32} {tn : Int32} {r : Int32} (h : pC_pitch zc x y xx yy tn r u) : fA u = fA zc := by
  rcases h with ⟨_, _, rfl⟩ | ⟨_, _, _, _, rfl⟩ | ⟨_, _, _, _, _, rfl⟩ | ⟨_, _, _, _, _, _, _, _, _, _, rfl⟩ | ⟨_, _, _, _, _, _, _, _, rfl⟩ | ⟨_, _, _, _, _, _, _, rfl⟩ | ⟨_, _, _, _, _, _, rfl⟩ | ⟨_, _, _, rfl⟩
  all_goals rfl
theorem frAR_pitch {zr u : RS2} {x : Int32} {y : Int32} {xx : Int32} {yy : Int32} {tn : Int32} {r : Int32} (h : pR_pitch zr x y xx yy tn r u) : gA u = gA zr := by
  rcases h with ⟨_, _, rfl⟩ | ⟨_, _, _, _, rfl⟩ | ⟨_, _, _, _, _, rfl⟩ | ⟨_, _, _, _, _, _, _, _, _, rfl⟩ | ⟨_, _, _, _, _, _, _, _, rfl⟩ | ⟨_, _, _, _, _, _, _, _, _, rfl⟩ | ⟨_, _, _, _, _, _, rfl⟩ | ⟨_, _, _, rfl⟩
  all_goals rfl
theorem frAC_auction {zc u : CS} {pp : Int32} {sv : Int32} {r : Int32} (h : pC_auction zc pp sv r u) : fA u = fA zc := by
  rcases h with ⟨_, _, rfl⟩ | ⟨_, _, _, _, _, _, _, _, rfl⟩ | ⟨_, _, _, _, _, _, _, rfl⟩ | ⟨_, _, _, _, _, _, _, rfl⟩ | ⟨_, _, _, _, _, _, _, rfl⟩ | ⟨_, _, _, _, _, _, rfl⟩ | ⟨_, _, _, _, _, _, rfl⟩
  all_goals rfl
theorem frAR_auction {zr u : RS2} {pp : Int32} {sv : Int32} {r : Int32} (h : pR_auction zr pp sv r u) : gA u = gA zr := by
  rcases h with ⟨_, _, rfl⟩ | ⟨_, _, _, _, _, _, _, _, rfl⟩ | ⟨_, _, _, _, _, _, _, _, _, rfl⟩ | ⟨_, _, _, _, _, _, _, _, _, rfl⟩ | ⟨_, _, _, _, _, rfl⟩
  all_goals rfl
theorem frAC_bid {zc u : CS} {g : Int32} {sv : Int32} {r : Int32} (h : pC_bid zc g sv r u) : fA u = fA zc := by
  rcases h with ⟨_, _, rfl⟩ | ⟨_, _, _, _, _, rfl⟩ | ⟨_, _, _, _, _, _, _, _, _, _, _, rfl⟩ | ⟨_, _, _, _, _, _, _, _, _, _, _, rfl⟩ | ⟨_, _, _, _, _, _, _, _, _, _, rfl⟩ | ⟨_, _, _, _, _, _, _, _, rfl⟩ | ⟨_, _, _, _, _, _, _, _, _, _, _, rfl⟩ | ⟨_, _, _, _, _, _, _, _, _, _, _, rfl⟩ | ⟨_, _, _, _, _, _, _, _, _, _, rfl⟩ | ⟨_, _, _, _, _, _, _, _, rfl⟩ | ⟨_, _, _, _, _, _, _, _, _, _, _, rfl⟩ | ⟨_, _, _, _, _, _, _, _, _, _, _, rfl⟩ | ⟨_, _, _, _, _, _, _, _, _, _, rfl⟩ | ⟨_, _, _, _, _, _, _, _, rfl⟩ | ⟨_, _, _, _, _, _, _, _, _, rfl⟩ | ⟨_, _, _, _, _, _, _, _, _, _, _, rfl⟩ | ⟨_, _, _, _, _, _, _, _, _, _, _, rfl⟩ | ⟨_, _, _, _, _, _, _, _, _, _, rfl⟩ | ⟨_, _, _, _, _, _, _, _, rfl⟩ | ⟨_, _, _, _, _, _, _, _, _, rfl⟩ | ⟨_, _, _, _, _, _, _, _, _, _, _, rfl⟩ | ⟨_, _, _, _, _, _, _, _, _, _, _, rfl⟩ | ⟨_, _, _, _, _, _, _, _, _, _, rfl⟩ | ⟨_, _, _, _, _, _, _, _, rfl⟩ | ⟨_, _, _, _, _, _, _, _, _, rfl⟩ | ⟨_, _, _, _, _, _, _, _, _, _, _, rfl⟩ | ⟨_, _, _, _, _, _, _, _, _, _, _, rfl⟩ | ⟨_, _, _, _, _, _, _, _, _, _, rfl⟩ | ⟨_, _, _, _, _, _, _, _, rfl⟩
  all_goals rfl
theorem frAR_bid {zr u : RS2} {g : Int32} {sv : Int32} {r : Int32} (h : pR_bid zr g sv r u) : gA u = gA zr := by
  rcases h with ⟨_, _, rfl⟩ | ⟨_, _, _, _, _, _, _, _, rfl⟩ | ⟨_, _, _, _, _, _, _, _, _, _, rfl⟩ | ⟨_, _, _, _, _, _, _, _, _, _, rfl⟩ | ⟨_, _, _, _, _, _, _, _, _, rfl⟩ | ⟨_, _, _, _, _, _, _, rfl⟩ | ⟨_, _, _, _, _, _, _, _, rfl⟩ | ⟨_, _, _, _, _, _, _, _, _, _, rfl⟩ | ⟨_, _, _, _, _, _, _, _, _, _, rfl⟩ | ⟨_, _, _, _, _, _, _, _, _, rfl⟩ | ⟨_, _, _, _, _, _, _, rfl⟩ | ⟨_, _, _, _, _, rfl⟩
  all_goals rfl
theorem frAC_strike {zc u : CS} {r : Int32} (h : pC_strike zc r u) : fA u = fA zc := by
  rcases h with ⟨_, _, rfl⟩ | ⟨_, _, _, rfl⟩ | ⟨_, _, _, _, _, _, _, _, _, _, _, rfl⟩ | ⟨_, _, _, _, _, rfl⟩ | ⟨_, _, _, _, _, _, _, _, _, _, _, rfl⟩ | ⟨_, _, _, _, _, rfl⟩ | ⟨_, _, _, _, _, _, _, _, _, _, _, rfl⟩ | ⟨_, _, _, _, _, rfl⟩
  all_goals rfl
theorem frAR_strike {zr u : RS2} {r : Int32} (h : pR_strike zr r u) : gA u = gA zr := by
  rcases h with ⟨_, _, _, rfl⟩ | ⟨_, _, _, _, _, _, _, _, _, rfl⟩ | ⟨_, _, _, _, _, _, _, _, rfl⟩ | ⟨_, _, _, _, _, _, _, rfl⟩
  all_goals rfl
theorem frAC_foretold {zc u : CS} {pp : Int32} {wh : Int32} {r : Int64} (h : pC_foretold zc pp wh r u) : fA u = fA zc := by
  rcases h with ⟨_, _, rfl⟩ | ⟨_, _, _, _, _, _, rfl⟩ | ⟨_, _, _, _, _, _, rfl⟩ | ⟨_, _, _, _, _, rfl⟩
  all_goals rfl
theorem frAR_foretold {zr u : RS2} {pp : Int32} {wh : Int32} {r : Int64} (h : pR_foretold zr pp wh r u) : gA u = gA zr := by
  rcases h with ⟨_, _, rfl⟩ | ⟨_, _, _, _, _, _, rfl⟩ | ⟨_, _, _, _, _, _, rfl⟩ | ⟨_, _, _, _, _, rfl⟩
  all_goals rfl
theorem frAC_sheet {zc u : CS} {k : Int32} {ln : Int32} {n : Int32} {r : Int32} (h : pC_sheet zc k ln n r u) : fA u = fA zc := by
  rcases h with ⟨_, _, rfl⟩ | ⟨_, _, _, _, _, rfl⟩ | ⟨_, _, _, _, _, _, _, rfl⟩ | ⟨_, _, _, _, _, _, _, rfl⟩ | ⟨_, _, _, _, _, _, rfl⟩
  all_goals rfl
theorem frAR_sheet {zr u : RS2} {k : Int32} {ln : Int32} {n : Int32} {r : Int32} (h : pR_sheet zr k ln n r u) : gA u = gA zr := by
  rcases h with ⟨_, _, rfl⟩ | ⟨_, _, _, _, _, rfl⟩ | ⟨_, _, _, _, _, _, _, _, _, _, rfl⟩ | ⟨_, _, _, _, _, _, _, rfl⟩ | ⟨_, _, _, _, _, _, rfl⟩
  all_goals rfl
theorem frAC_lose {zc u : CS} {k : Int32} {r : Int32} (h : pC_lose zc k r u) : fA u = fA zc := by
  rcases h with ⟨_, _, rfl⟩ | ⟨_, _, _, _, _, rfl⟩ | ⟨_, _, _, _, _, rfl⟩
  all_goals rfl
theorem frAR_lose {zr u : RS2} {k : Int32} {r : Int32} (h : pR_lose zr k r u) : gA u = gA zr := by
  rcases h with ⟨_, _, rfl⟩ | ⟨_, _, _, _, _, rfl⟩ | ⟨_, _, _, _, _, rfl⟩
  all_goals rfl
theorem frAC_put {zc u : CS} {k : Int32} {ix : Int32} {v : Int32} {r : Int32} (h : pC_put zc k ix v r u) : fA u = fA zc := by
  rcases h with ⟨_, _, rfl⟩ | ⟨_, _, _, _, _, _, rfl⟩ | ⟨_, _, _, _, _, _, rfl⟩ | ⟨_, _, _, _, _, rfl⟩
  all_goals rfl
theorem frAR_put {zr u : RS2} {k : Int32} {i : Int32} {v : Int32} {r : Int32} (h : pR_put zr k i v r u) : gA u = gA zr := by
  rcases h with ⟨_, _, rfl⟩ | ⟨_, _, _, _, _, _, _, _, _, _, rfl⟩ | ⟨_, _, _, _, _, _, _, _, _, _, rfl⟩ | ⟨_, _, _, _, _, _, _, _, _, rfl⟩ | ⟨_, _, _, _, _, rfl⟩
  all_goals rfl
theorem frAC_cell {zc u : CS} {k : Int32} {ix : Int32} {ln : Int32} {r : Int64} (h : pC_cell zc k ix ln r u) : fA u = fA zc := by
  rcases h with ⟨_, _, rfl⟩ | ⟨_, _, _, _, _, _, rfl⟩ | ⟨_, _, _, _, _, _, _, _, rfl⟩ | ⟨_, _, _, _, _, _, _, _, rfl⟩ | ⟨_, _, _, _, _, _, _, rfl⟩ | ⟨_, _, _, _, _, rfl⟩
  all_goals rfl
theorem frAR_cell {zr u : RS2} {k : Int32} {i : Int32} {ln : Int32} {r : Int64} (h : pR_cell zr k i ln r u) : gA u = gA zr := by
  rcases h with ⟨_, _, rfl⟩ | ⟨_, _, _, _, _, _, _, _, _, _, rfl⟩ | ⟨_, _, _, _, _, _, _, rfl⟩ | ⟨_, _, _, _, _, _, _, _, _, _, _, rfl⟩ | ⟨_, _, _, _, _, _, _, _, rfl⟩ | ⟨_, _, _, _, _, _, _, rfl⟩ | ⟨_, _, _, _, _, rfl⟩
  all_goals rfl
theorem frAC_find {zc u : CS} {x : Int32} {y : Int32} {lo : Int32} {hi : Int32} {r : Int32} (h : pC_find zc x y lo hi r u) : fA u = fA zc := by
  rcases h with ⟨_, _, _, rfl⟩ | ⟨_, _, _, _, rfl⟩ | ⟨_, _, _, _, _, _, _, _, _, _, _, _, _, _, _, rfl⟩ | ⟨_, _, _, _, _, rfl⟩ | ⟨_, _, rfl⟩
  all_goals rfl
theorem frAR_find {zr u : RS2} {x : Int32} {y : Int32} {lo : Int32} {hi : Int32} {r : Int32} (h : pR_find zr x y lo hi r u) : gA u = gA zr := by
  rcases h with ⟨_, _, _, rfl⟩ | ⟨_, _, _, _, _, _, _, _, _, _, _, _, _, _, _, _, _, _, _, rfl⟩ | ⟨_, _, _, _, rfl⟩ | ⟨_, _, rfl⟩
  all_goals rfl
theorem frAC_rise {zc u : CS} {dd : Int32} {r : Int32} (h : pC_rise zc dd r u) : fA u = fA zc := by
  rcases h with ⟨_, _, _, _, _, _, _, _, _, _, rfl⟩ | ⟨_, _, _, rfl⟩ | ⟨_, _, rfl⟩
  all_goals rfl
theorem frAR_rise {zr u : RS2} {dd : Int32} {r : Int32} (h : pR_rise zr dd r u) : gA u = gA zr := by
  rcases h with ⟨_, _, _, _, _, _, _, _, _, _, _, rfl⟩ | ⟨_, _, _, rfl⟩ | ⟨_, _, rfl⟩
  all_goals rfl
theorem frAC_suspects {zc u : CS} {r : Int32} (h : pC_suspects zc r u) : fA u = fA zc := by
  rcases h with ⟨_, rfl⟩
  all_goals rfl
theorem frAR_suspects {zr u : RS2} {r : Int32} (h : pR_suspects zr r u) : gA u = gA zr := by
  rcases h with ⟨_, rfl⟩
  all_goals rfl
theorem frAC_suspect {zc u : CS} {ix : Int32} {r : Int32} (h : pC_suspect zc ix r u) : fA u = fA zc := by
  rcases h with ⟨_, _, rfl⟩ | ⟨_, _, _, _, _, rfl⟩
  all_goals rfl
theorem frAR_suspect {zr u : RS2} {ix : Int32} {r : Int32} (h : pR_suspect zr ix r u) : gA u = gA zr := by
  rcases h with ⟨_, _, rfl⟩ | ⟨_, _, _, _, _, rfl⟩
  all_goals rfl
theorem frAC_skill {zc u : CS} {g : Int32} {wh : Int32} {r : Int64} (h : pC_skill zc g wh r u) : fA u = fA zc := by
  rcases h with ⟨_, _, rfl⟩ | ⟨_, _, _, _, _, _, _, _, _, rfl⟩ | ⟨_, _, _, _, _, _, _, _, _, rfl⟩ | ⟨_, _, _, _, _, _, _, _, _, rfl⟩ | ⟨_, _, _, _, _, _, _, _, _, rfl⟩ | ⟨_, _, _, _, _, rfl⟩
  all_goals rfl
theorem frAR_skill {zr u : RS2} {g : Int32} {wh : Int32} {r : Int64} (h : pR_skill zr g wh r u) : gA u = gA zr := by
  rcases h with ⟨_, _, rfl⟩ | ⟨_, _, _, _, _, _, _, _, _, rfl⟩ | ⟨_, _, _, _, _, _, _, _, _, rfl⟩ | ⟨_, _, _, _, _, _, rfl⟩ | ⟨_, _, _, _, _, rfl⟩
  all_goals rfl
theorem frAC_copy {zc u : CS} {k : Int32} {ix : Int32} {ot : Int32} {jx : Int32} {n : Int32} {r : Int32} (h : pC_copy zc k ix ot jx n r u) : fA u = fA zc := by
  rcases h with ⟨_, _, _, rfl⟩ | ⟨_, _, _, _, _, rfl⟩ | ⟨_, _, _, _, _, rfl⟩ | ⟨_, _, _, _, _, _, rfl⟩ | ⟨_, _, _, _, _, _, _, _, _, rfl⟩ | ⟨_, _, _, _, _, _, _, _, _, _, _, _, _, _, _, _, _, _, rfl⟩ | ⟨_, _, _, _, _, _, _, _, _, _, rfl⟩ | ⟨_, _, _, _, _, _, _, _, rfl⟩ | ⟨_, _, _, _, _, _, _, rfl⟩ | ⟨_, _, _, _, _, _, _, _, _, rfl⟩ | ⟨_, _, _, _, _, _, _, _, _, _, _, _, rfl⟩ | ⟨_, _, _, _, _, _, _, _, _, _, _, _, _, _, _, _, _, _, _, _, _, rfl⟩ | ⟨_, _, _, _, _, _, _, _, _, _, _, _, _, rfl⟩ | ⟨_, _, _, _, _, _, _, _, _, _, _, rfl⟩ | ⟨_, _, _, _, _, _, _, _, _, _, rfl⟩
  all_goals rfl
theorem frAR_copy {zr u : RS2} {k : Int32} {ix : Int32} {ot : Int32} {jx : Int32} {n : Int32} {r : Int32} (h : pR_copy zr k ix ot jx n r u) : gA u = gA zr := by
  rcases h with ⟨_, _, rfl⟩ | ⟨_, _, _, _, _, rfl⟩ | ⟨_, _, _, _, _, _, _, _, rfl⟩ | ⟨_, _, _, _, _, _, _, _, _, _, _, rfl⟩ | ⟨_, _, _, _, _, _, _, _, _, _, _, _, _, _, _, _, _, _, _, _, rfl⟩ | ⟨_, _, _, _, _, _, _, _, _, _, _, _, rfl⟩ | ⟨_, _, _, _, _, _, _, _, _, _, rfl⟩ | ⟨_, _, _, _, _, _, _, _, _, rfl⟩
  all_goals rfl
theorem frAC_chart {zc u : CS} {k : Int32} {ln : Int32} {ix : Int32} {n : Int32} {sv : Int32} {r : Int32} (h : pC_chart zc k ln ix n sv r u) : fA u = fA zc := by
  rcases h with ⟨_, _, rfl⟩ | ⟨_, _, _, _, _, _, _, _, _, _, _, _, _, _, _, _, _, _, rfl⟩ | ⟨_, _, _, _, _, _, _, _, _, _, _, _, _, _, _, _, _, _, _, _, _, _, _, _, _, _, _, _, _, rfl⟩ | ⟨_, _, _, _, _, _, _, _, _, _, _, _, _, _, _, _, _, _, rfl⟩ | ⟨_, _, _, _, _, _, _, rfl⟩ | ⟨_, _, _, _, _, _, rfl⟩ | ⟨_, _, _, _, _, rfl⟩
  all_goals rfl
theorem frAR_chart {zr u : RS2} {k : Int32} {ln : Int32} {ix : Int32} {nq : Int32} {sv : Int32} {r : Int32} (h : pR_chart zr k ln ix nq sv r u) : gA u = gA zr := by
  rcases h with ⟨_, _, rfl⟩ | ⟨_, _, _, _, _, _, _, _, _, _, rfl⟩ | ⟨_, _, _, _, _, _, _, _, _, _, _, _, _, _, _, _, _, _, _, _, _, _, _, _, _, _, _, _, _, _, _, _, rfl⟩ | ⟨_, _, _, _, _, _, _, _, _, _, _, _, _, _, _, _, _, _, _, _, _, _, _, _, _, _, rfl⟩ | ⟨_, _, _, _, _, _, _, _, _, _, _, rfl⟩ | ⟨_, _, _, _, _, _, _, _, _, rfl⟩ | ⟨_, _, _, _, _, _, _, _, rfl⟩ | ⟨_, _, _, _, _, _, _, _, _, _, _, rfl⟩ | ⟨_, _, _, _, _, _, _, _, _, _, _, _, _, _, _, _, _, _, _, _, _, _, _, _, _, _, _, _, _, _, _, _, _, rfl⟩ | ⟨_, _, _, _, _, _, _, _, _, _, _, _, _, _, _, _, _, _, _, _, _, _, _, _, _, _, _, rfl⟩ | ⟨_, _, _, _, _, _, _, _, _, _, _, _, rfl⟩ | ⟨_, _, _, _, _, _, _, _, _, _, rfl⟩ | ⟨_, _, _, _, _, _, _, _, _, rfl⟩ | ⟨_, _, _, _, _, _, _, _, rfl⟩ | ⟨_, _, _, _, _, _, rfl⟩ | ⟨_, _, _, _, _, rfl⟩
  all_goals rfl
theorem stA_trace {zc u : CS} {zr w9 : RS2} {r r' : Int32} (h : relA zc zr) (hc : pC_trace zc r u) (hr : pR_trace zr r' w9) : relA u w9 := relA_of (frAC_trace hc) (frAR_trace hr) h
theorem stA_fault {zc u : CS} {zr w9 : RS2} {r r' : Int32} (h : relA zc zr) (hc : pC_fault zc r u) (hr : pR_fault zr r' w9) : relA u w9 := relA_of (frAC_fault hc) (frAR_fault hr) h
theorem stA_told {zc u : CS} {zr w9 : RS2} {a0 : Int32} {r r' : Int32} (h : relA zc zr) (hc : pC_told zc a0 r u) (hr : pR_told zr a0 r' w9) : relA u w9 := relA_of (frAC_told hc) (frAR_told hr) h
theorem stA_good {zc u : CS} {zr w9 : RS2} {x : Int32} {y : Int32} {wh : Int32} {r r' : Int32} (h : relA zc zr) (hc : pC_good zc x y wh r u) (hr : pR_good zr x y wh r' w9) : relA u w9 := relA_of (frAC_good hc) (frAR_good hr) h
theorem stA_money {zc u : CS} {zr w9 : RS2} {t : Int32} {wh : Int32} {r r' : Int64} (h : relA zc zr) (hc : pC_money zc t wh r u) (hr : pR_money zr t wh r' w9) : relA u w9 := relA_of (frAC_money hc) (frAR_money hr) h
theorem stA_spend {zc u : CS} {zr w9 : RS2} {t : Int32} {wh : Int32} {pn : Int32} {r r' : Int64} (h : relA zc zr) (hc : pC_spend zc t wh pn r u) (hr : pR_spend zr t wh pn r' w9) : relA u w9 := relA_of (frAC_spend hc) (frAR_spend hr) h
theorem stA_debt {zc u : CS} {zr w9 : RS2} {g : Int32} {r r' : Int64} (h : relA zc zr) (hc : pC_debt zc g r u) (hr : pR_debt zr g r' w9) : relA u w9 := relA_of (frAC_debt hc) (frAR_debt hr) h
theorem stA_as {zc u : CS} {zr w9 : RS2} {g : Int32} {k : Int32} {r r' : Int32} (h : relA zc zr) (hc : pC_as zc g k r u) (hr : pR_as zr g k r' w9) : relA u w9 := relA_of (frAC_as hc) (frAR_as hr) h
theorem stA_taken {zc u : CS} {zr w9 : RS2} {t : Int32} {wh : Int32} {r r' : Int32} (h : relA zc zr) (hc : pC_taken zc t wh r u) (hr : pR_taken zr t wh r' w9) : relA u w9 := relA_of (frAC_taken hc) (frAR_taken hr) h
theorem stA_settle {zc u : CS} {zr w9 : RS2} {t : Int32} {r r' : Int64} (h : relA zc zr) (hc : pC_settle zc t r u) (hr : pR_settle zr t r' w9) : relA u w9 := relA_of (frAC_settle hc) (frAR_settle hr) h
theorem stA_about {zc u : CS} {zr w9 : RS2} {pp : Int32} {wh : Int32} {r r' : Int32} (h : relA zc zr) (hc : pC_about zc pp wh r u) (hr : pR_about zr pp wh r' w9) : relA u w9 := relA_of (frAC_about hc) (frAR_about hr) h
theorem stA_parcel {zc u : CS} {zr w9 : RS2} {t : Int32} {tn : Int32} {gd : Int32} {r r' : Int32} (h : relA zc zr) (hc : pC_parcel zc t tn gd r u) (hr : pR_parcel zr t tn gd r' w9) : relA u w9 := relA_of (frAC_parcel hc) (frAR_parcel hr) h
theorem stA_pitch {zc u : CS} {zr w9 : RS2} {x : Int32} {y : Int32} {xx : Int32} {yy : Int32} {tn : Int32} {r r' : Int32} (h : relA zc zr) (hc : pC_pitch zc x y xx yy tn r u) (hr : pR_pitch zr x y xx yy tn r' w9) : relA u w9 := relA_of (frAC_pitch hc) (frAR_pitch hr) h
theorem stA_auction {zc u : CS} {zr w9 : RS2} {pp : Int32} {sv : Int32} {r r' : Int32} (h : relA zc zr) (hc : pC_auction zc pp sv r u) (hr : pR_auction zr pp sv r' w9) : relA u w9 := relA_of (frAC_auction hc) (frAR_auction hr) h
theorem stA_bid {zc u : CS} {zr w9 : RS2} {g : Int32} {sv : Int32} {r r' : Int32} (h : relA zc zr) (hc : pC_bid zc g sv r u) (hr : pR_bid zr g sv r' w9) : relA u w9 := relA_of (frAC_bid hc) (frAR_bid hr) h
theorem stA_strike {zc u : CS} {zr w9 : RS2} {r r' : Int32} (h : relA zc zr) (hc : pC_strike zc r u) (hr : pR_strike zr r' w9) : relA u w9 := relA_of (frAC_strike hc) (frAR_strike hr) h
theorem stA_foretold {zc u : CS} {zr w9 : RS2} {pp : Int32} {wh : Int32} {r r' : Int64} (h : relA zc zr) (hc : pC_foretold zc pp wh r u) (hr : pR_foretold zr pp wh r' w9) : relA u w9 := relA_of (frAC_foretold hc) (frAR_foretold hr) h
theorem stA_sheet {zc u : CS} {zr w9 : RS2} {k : Int32} {ln : Int32} {n : Int32} {r r' : Int32} (h : relA zc zr) (hc : pC_sheet zc k ln n r u) (hr : pR_sheet zr k ln n r' w9) : relA u w9 := relA_of (frAC_sheet hc) (frAR_sheet hr) h
theorem stA_lose {zc u : CS} {zr w9 : RS2} {k : Int32} {r r' : Int32} (h : relA zc zr) (hc : pC_lose zc k r u) (hr : pR_lose zr k r' w9) : relA u w9 := relA_of (frAC_lose hc) (frAR_lose hr) h
theorem stA_put {zc u : CS} {zr w9 : RS2} {k : Int32} {ix : Int32} {v : Int32} {r r' : Int32} (h : relA zc zr) (hc : pC_put zc k ix v r u) (hr : pR_put zr k ix v r' w9) : relA u w9 := relA_of (frAC_put hc) (frAR_put hr) h
theorem stA_cell {zc u : CS} {zr w9 : RS2} {k : Int32} {ix : Int32} {ln : Int32} {r r' : Int64} (h : relA zc zr) (hc : pC_cell zc k ix ln r u) (hr : pR_cell zr k ix ln r' w9) : relA u w9 := relA_of (frAC_cell hc) (frAR_cell hr) h
theorem stA_find {zc u : CS} {zr w9 : RS2} {x : Int32} {y : Int32} {lo : Int32} {hi : Int32} {r r' : Int32} (h : relA zc zr) (hc : pC_find zc x y lo hi r u) (hr : pR_find zr x y lo hi r' w9) : relA u w9 := relA_of (frAC_find hc) (frAR_find hr) h
theorem stA_rise {zc u : CS} {zr w9 : RS2} {dd : Int32} {r r' : Int32} (h : relA zc zr) (hc : pC_rise zc dd r u) (hr : pR_rise zr dd r' w9) : relA u w9 := relA_of (frAC_rise hc) (frAR_rise hr) h
theorem stA_suspects {zc u : CS} {zr w9 : RS2} {r r' : Int32} (h : relA zc zr) (hc : pC_suspects zc r u) (hr : pR_suspects zr r' w9) : relA u w9 := relA_of (frAC_suspects hc) (frAR_suspects hr) h
theorem stA_suspect {zc u : CS} {zr w9 : RS2} {ix : Int32} {r r' : Int32} (h : relA zc zr) (hc : pC_suspect zc ix r u) (hr : pR_suspect zr ix r' w9) : relA u w9 := relA_of (frAC_suspect hc) (frAR_suspect hr) h
theorem stA_skill {zc u : CS} {zr w9 : RS2} {g : Int32} {wh : Int32} {r r' : Int64} (h : relA zc zr) (hc : pC_skill zc g wh r u) (hr : pR_skill zr g wh r' w9) : relA u w9 := relA_of (frAC_skill hc) (frAR_skill hr) h
theorem stA_copy {zc u : CS} {zr w9 : RS2} {k : Int32} {ix : Int32} {ot : Int32} {jx : Int32} {n : Int32} {r r' : Int32} (h : relA zc zr) (hc : pC_copy zc k ix ot jx n r u) (hr : pR_copy zr k ix ot jx n r' w9) : relA u w9 := relA_of (frAC_copy hc) (frAR_copy hr) h
theorem stA_chart {zc u : CS} {zr w9 : RS2} {k : Int32} {ln : Int32} {ix : Int32} {n : Int32} {sv : Int32} {r r' : Int32} (h : relA zc zr) (hc : pC_chart zc k ln ix n sv r u) (hr : pR_chart zr k ln ix n sv r' w9) : relA u w9 := relA_of (frAC_chart hc) (frAR_chart hr) h
theorem relA_n {zc : CS} {zr : RS2} (h : relA zc zr) : rs_n zr 1 = cs_n zc 1 := h.1.symm
theorem relA_k {zc : CS} {zr : RS2} (h : relA zc zr) {g : Nat} (hg : g < cs_n zc 1) : rs_I zr 18 g = kI (cs_N zc 1 g) := h.2.1 g hg
theorem relA_t {zc : CS} {zr : RS2} (h : relA zc zr) : rs_i zr 38 = cs_i zc 1 := h.2.2.symm
theorem kI1 : kI 1 = 1 := rfl
theorem kI2 : kI 2 = 0 := rfl
theorem kI4 : kI 4 = 2 := rfl
/-- the same index in both -/
theorem ix_eq {i j n : Nat} (hn : n ≤ 100) (hi : i < n) (hj : j < n) (h : nI i = nI j) : i = j := (nI_eq (by omega) (by omega)).mp h
theorem stA_trace' {zc u : CS} {zr v : RS2} {r r' : Int32} (h : relA zc zr) (hc : pC_trace zc r u) (hr : pR_trace zr r' v) : r = r' := by
  obtain ⟨rfl, rfl⟩ := hc
  obtain ⟨rfl, rfl⟩ := hr
  exact h.2.2
theorem stA_gang {zc u : CS} {zr v : RS2} {k r r' : Int32} (hI : invC zc) (h : relA zc zr) (hc : pC_gang zc k r u) (hr : pR_gang zr k r' v) : relA u v ∧ r = r' := by
  have hn := relA_n h
  have h8 : cs_n zc 1 ≤ 8 := hI.1.2.1
  have e8 : ∀ n, n ≤ 8 → (nI n < 8 ↔ ¬ nI n = 8) := by decide
  have new : ∀ (kk : Nat) (q : Nat), kI kk = k → relA (cs_i zc, va_up (cs_n zc) 1 (cs_n zc 1 + 1), va_up (va_up (cs_I zc) 21 (va_up (cs_I zc 21) (cs_n zc 1) 0)) 22 (va_up (cs_I zc 22) (cs_n zc 1) 0), va_up (cs_L zc) 0 (va_up (cs_L zc 0) (cs_n zc 1) 0), va_up (cs_N zc) 1 (va_up (cs_N zc 1) (cs_n zc 1) kk), cs_S zc, va_up (cs_X zc) 2 (va_up (cs_X zc 2) (cs_n zc 1) q)) (rs_i zr, va_up (rs_n zr) 1 (rs_n zr 1 + 1), va_up (rs_I zr) 18 (upd (rs_I zr 18) (rs_n zr 1) k), rs_L zr) := by
    intro kk q hk
    refine ⟨congrArg (· + 1) h.1, fun g hg => ?_, h.2.2⟩
    have hg : g < cs_n zc 1 + 1 := hg
    show upd (rs_I zr 18) (rs_n zr 1) k g = kI (va_up (cs_N zc 1) (cs_n zc 1) kk g)
    by_cases e : g = cs_n zc 1
    · rw [e, hn, pk_us]
      simp [va_up, hk]
    · rw [pk_un (by rw [hn]; exact e)]
      simp only [va_up, e, if_false]
      exact relA_k h (by omega)
  rcases hr with ⟨b1, b2, b3, rfl, rfl⟩ | ⟨b1, b2, rfl, rfl⟩ | ⟨b1, rfl, rfl⟩
  · rw [hn]
    rcases hc with ⟨a1, a2, a3, rfl, q, rfl, rfl⟩ | ⟨a1, a2, a3, rfl, q, rfl, rfl⟩ | ⟨a1, a2, a3, rfl, q, rfl, rfl⟩ | ⟨a1, a2, rfl, rfl⟩ | ⟨a1, rfl, rfl⟩
    · exact ⟨hn ▸ new 2 q rfl, rfl⟩
    · exact ⟨hn ▸ new 1 q rfl, rfl⟩
    · exact ⟨hn ▸ new 4 q rfl, rfl⟩
    · exact absurd ((e8 _ h8).mpr (hn ▸ b2)) a2
    · exact absurd b1 a1
  · rw [hn] at b2
    rcases hc with ⟨a1, a2, a3, rfl, q, rfl, rfl⟩ | ⟨a1, a2, a3, rfl, q, rfl, rfl⟩ | ⟨a1, a2, a3, rfl, q, rfl, rfl⟩ | ⟨a1, a2, rfl, rfl⟩ | ⟨a1, rfl, rfl⟩
    · exact absurd b2 ((e8 _ h8).mp a2)
    · exact absurd b2 ((e8 _ h8).mp a2)
    · exact absurd b2 ((e8 _ h8).mp a2)
    · exact ⟨h, rfl⟩
    · exact absurd b1 a1
  · rcases hc with ⟨a1, a2, a3, rfl, q, rfl, rfl⟩ | ⟨a1, a2, a3, rfl, q, rfl, rfl⟩ | ⟨a1, a2, a3, rfl, q, rfl, rfl⟩ | ⟨a1, a2, rfl, rfl⟩ | ⟨a1, rfl, rfl⟩
    · exact absurd a1 b1
    · exact absurd a1 b1
    · exact absurd a1 b1
    · exact absurd a1 b1
    · exact ⟨h, rfl⟩
theorem relA_tr {zc : CS} {zr : RS2} (h : relA zc zr) {t : Int32} : relA (va_up (cs_i zc) 1 t, cs_n zc, cs_I zc, cs_L zc, cs_N zc, cs_S zc, cs_X zc) (va_up (rs_i zr) 38 t, rs_n zr, rs_I zr, rs_L zr) := ⟨h.1, h.2.1, rfl⟩
theorem stA_greet {zc u : CS} {zr v : RS2} {g r r' : Int32} (hI : invC zc) (h : relA zc zr) (hc : pC_greet zc g r u) (hr : pR_greet zr g r' v) : relA u v ∧ r = r' := by
  have hn := relA_n h
  have h8 : cs_n zc 1 ≤ 8 := hI.1.2.1
  have ht := relA_t h
  rcases hc with ⟨a1, rfl, rfl⟩ | ⟨jg, rfl, a1, a2, rfl, rfl⟩ | ⟨jg, rfl, a1, a2, rfl, rfl⟩ | ⟨jg, rfl, a1, a2, rfl, rfl⟩
  · rcases hr with ⟨b1, rfl, rfl⟩ | ⟨j, rfl, b1, _⟩ | ⟨j, rfl, b1, _⟩ | ⟨j, rfl, b1, _⟩ | ⟨j, rfl, b1, _⟩ | ⟨j, rfl, b1, _⟩
    · exact ⟨h, rfl⟩
    all_goals exact absurd rfl (a1 j (hn ▸ b1))
  all_goals
    have hk := relA_k h a1
    rw [a2] at hk
    rcases hr with ⟨b1, rfl, rfl⟩ | ⟨j, e, b1, c1, c2, c3, rfl, rfl⟩ | ⟨j, e, b1, c1, c2, c3, rfl, rfl⟩ | ⟨j, e, b1, c1, c2, c3, rfl, rfl⟩ | ⟨j, e, b1, c1, c2, c3, rfl, rfl⟩ | ⟨j, e, b1, c1, rfl, rfl⟩
    · exact absurd rfl (b1 jg (hn ▸ a1))
    all_goals
      obtain rfl := ix_eq (by omega) a1 (hn ▸ b1) e
      first
      | (rw [hk] at c1; exact absurd c1 (by decide))
      | (rw [hk] at c2; exact absurd c2 (by decide))
      | (rw [hk] at c3; exact absurd c3 (by decide))
      | exact ⟨by rw [ht]; exact relA_tr h, rfl⟩
theorem stA_as' {zc u : CS} {zr v : RS2} {g k r r' : Int32} (hI : invC zc) (h : relA zc zr) (hc : pC_as zc g k r u) (hr : pR_as zr g k r' v) : r = r' := by
  have hn := relA_n h
  have h8 : cs_n zc 1 ≤ 8 := hI.1.2.1
  have kk : (0 ≤ k ∧ k ≤ 2) → k = 0 ∨ k = 1 ∨ k = 2 := by
    rintro ⟨h1, h2⟩
    obtain ⟨n, hn, rfl⟩ := nI_of2 (x := k) (M := 2) (n := 2) (by decide) (Int32.not_lt.mpr h1) h2
    rcases (show n = 0 ∨ n = 1 ∨ n = 2 by omega) with rfl | rfl | rfl
    · exact Or.inl rfl
    · exact Or.inr (Or.inl rfl)
    · exact Or.inr (Or.inr rfl)
  rcases hr with ⟨b1, rfl, rfl⟩ | ⟨j, rfl, b1, b2, b3, rfl, rfl⟩ | ⟨j, rfl, b1, b2, b3, rfl, rfl⟩ | ⟨j, rfl, b1, b2, rfl, rfl⟩
  · rcases hc with ⟨a1, rfl, rfl⟩ | ⟨jg, rfl, a1, _⟩ | ⟨jg, rfl, a1, _⟩ | ⟨jg, rfl, a1, _⟩ | ⟨jg, rfl, a1, _⟩ | ⟨jg, rfl, a1, _⟩ | ⟨jg, rfl, a1, _⟩ | ⟨jg, rfl, a1, _⟩ | ⟨jg, rfl, a1, _⟩ | ⟨jg, rfl, a1, _⟩
    · rfl
    all_goals exact absurd rfl (b1 jg (hn ▸ a1))
  all_goals
    rcases hc with ⟨a1, rfl, rfl⟩ | ⟨jg, e, a1, a2, a3, a4, rfl, rfl⟩ | ⟨jg, e, a1, a2, a3, a4, rfl, rfl⟩ | ⟨jg, e, a1, a2, a3, rfl, rfl⟩ | ⟨jg, e, a1, a2, a3, a4, rfl, rfl⟩ | ⟨jg, e, a1, a2, a3, a4, rfl, rfl⟩ | ⟨jg, e, a1, a2, a3, rfl, rfl⟩ | ⟨jg, e, a1, a2, a3, a4, rfl, rfl⟩ | ⟨jg, e, a1, a2, a3, a4, rfl, rfl⟩ | ⟨jg, e, a1, a2, a3, rfl, rfl⟩
    · exact absurd rfl (a1 j (hn ▸ b1))
    all_goals
      obtain rfl := ix_eq (by omega) (hn ▸ b1) a1 e
      first
      | rfl
      | exact absurd b2 a3
      | exact absurd a3 b2
      | (have hk := relA_k h a1
         rw [a2] at hk
         rw [hk] at b3
         rcases kk a3 with rfl | rfl | rfl
         all_goals first | exact absurd b3 (by decide) | exact absurd a4 (by decide))
theorem stA_tell {zc u : CS} {zr v : RS2} {g r r' : Int32} (hI : invC zc) (h : relA zc zr) (hc : pC_tell zc g r u) (hr : pR_tell zr g r' v) : relA u v := by
  have hn := relA_n h
  have h8 : cs_n zc 1 ≤ 8 := hI.1.2.1
  have ht := relA_t h
  rcases hc with ⟨a1, rfl, rfl⟩ | ⟨jg, rfl, a1, a2, rfl, rfl⟩ | ⟨jg, rfl, a1, a2, rfl, rfl⟩ | ⟨jg, rfl, a1, a2, rfl, rfl⟩
  · rcases hr with ⟨b1, rfl, rfl⟩ | ⟨j, rfl, b1, _⟩ | ⟨j, rfl, b1, _⟩ | ⟨j, rfl, b1, _⟩ | ⟨j, rfl, b1, _⟩ | ⟨j, rfl, b1, _⟩ | ⟨j, rfl, b1, _⟩ | ⟨j, rfl, b1, _⟩ | ⟨j, rfl, b1, _⟩ | ⟨j, rfl, b1, _⟩
    · exact h
    all_goals exact absurd rfl (a1 j (hn ▸ b1))
  all_goals
    have hk := relA_k h a1
    rw [a2] at hk
    rcases hr with ⟨b1, rfl, rfl⟩ | ⟨j, e, b1, c1, c2, c3, rfl, rfl⟩ | ⟨j, e, b1, c1, c2, c3, rfl, rfl⟩ | ⟨j, e, b1, c1, c2, rfl, rfl⟩ | ⟨j, e, b1, c1, c2, c3, c4, rfl, rfl⟩ | ⟨j, e, b1, c1, c2, c3, c4, rfl, rfl⟩ | ⟨j, e, b1, c1, c2, c3, rfl, rfl⟩ | ⟨j, e, b1, c1, c2, c3, c4, rfl, rfl⟩ | ⟨j, e, b1, c1, c2, c3, c4, rfl, rfl⟩ | ⟨j, e, b1, c1, c2, c3, rfl, rfl⟩
    · exact absurd rfl (b1 jg (hn ▸ a1))
    all_goals
      obtain rfl := ix_eq (by omega) a1 (hn ▸ b1) e
      first
      | (rw [hk] at c1; exact absurd c1 (by decide))
      | (rw [hk] at c2; exact absurd c2 (by decide))
      | (rw [hk] at c3; exact absurd c3 (by decide))
      | (rw [ht]; exact relA_tr h)
/-! layer B: the sheets -/
def fB (z : CS) : (Nat → Int32) × (Nat → Int32) × (Nat → Nat → Int32) := (cs_I z 8, cs_I z 9, cs_S z)
def gB (z : RS2) : (Nat → Int32) × (Nat → Int32) × (Nat → Int32) := (rs_I z 7, rs_I z 8, rs_I z 9)
def rBk (k : Nat) (ln le : Int32) (f : Nat → Int32) (sz la : Int32) (g : Nat → Int32) : Prop := (ln = -1 ∧ sz = -1) ∨ ((0 ≤ ln ∧ ln ≤ 2) ∧ ln = la ∧ le = sz ∧ (0 ≤ le.toInt ∧ le.toInt ≤ 48) ∧ ∀ i : Nat, (i : Int) < le.toInt → f i = g (48 * k + i))
def rB (a : (Nat → Int32) × (Nat → Int32) × (Nat → Nat → Int32)) (b : (Nat → Int32) × (Nat → Int32) × (Nat → Int32)) : Prop := ∀ k, k < 4 → rBk k (a.1 k) (a.2.1 k) (a.2.2 k) (b.1 k) (b.2.1 k) b.2.2
def relB (zc : CS) (zr : RS2) : Prop := rB (fB zc) (gB zr)
theorem relB_of {zc u : CS} {zr v : RS2} (h1 : fB u = fB zc) (h2 : gB v = gB zr) (h : relB zc zr) : relB u v := by
  unfold relB; rw [h1, h2]; exact h
theorem relB_0 {x : Nat → Nat → Nat} : relB (z0C x) z0R := fun k _ => Or.inl ⟨rfl, rfl⟩
theorem frBC_trace {zc u : CS} {r : Int32} (h : pC_trace zc r u) : fB u = fB zc := by
  rcases h with ⟨_, rfl⟩
  all_goals rfl
theorem frBR_trace {zr u : RS2} {r : Int32} (h : pR_trace zr r u) : gB u = gB zr := by
  rcases h with ⟨_, rfl⟩
  all_goals rfl
theorem frBC_fault {zc u : CS} {r : Int32} (h : pC_fault zc r u) : fB u = fB zc := by
  rcases h with ⟨_, rfl⟩
  all_goals rfl
theorem frBR_fault {zr u : RS2} {r : Int32} (h : pR_fault zr r u) : gB u = gB zr := by
  rcases h with ⟨_, rfl⟩
  all_goals rfl
theorem frBC_told {zc u : CS} {a0 : Int32} {r : Int32} (h : pC_told zc a0 r u) : fB u = fB zc := by
  rcases h with ⟨_, _, _, rfl⟩ | ⟨_, _, _, rfl⟩ | ⟨_, _, _, rfl⟩ | ⟨_, _, _, rfl⟩ | ⟨_, _, _, rfl⟩ | ⟨_, _, _, rfl⟩ | ⟨_, _, _, rfl⟩ | ⟨_, _, _, rfl⟩ | ⟨_, _, _, _, _, _, _, _, _, _, rfl⟩ | ⟨_, _, _, rfl⟩ | ⟨_, _, _, rfl⟩ | ⟨_, _, _, rfl⟩ | ⟨_, _, _, rfl⟩ | ⟨_, _, _, rfl⟩ | ⟨_, _, _, rfl⟩ | ⟨_, _, _, rfl⟩ | ⟨_, _, _, rfl⟩ | ⟨_, _, _, _, _, _, _, _, _, _, rfl⟩
  all_goals rfl
theorem frBR_told {zr u : RS2} {a0 : Int32} {r : Int32} (h : pR_told zr a0 r u) : gB u = gB zr := by
  rcases h with ⟨_, _, rfl⟩ | ⟨_, _, rfl⟩ | ⟨_, _, rfl⟩ | ⟨_, _, rfl⟩ | ⟨_, _, rfl⟩ | ⟨_, _, _, rfl⟩ | ⟨_, _, _, rfl⟩ | ⟨_, _, rfl⟩ | ⟨_, _, _, rfl⟩ | ⟨_, _, _, rfl⟩ | ⟨_, _, _, _, _, _, _, _, _, rfl⟩
  all_goals rfl
theorem frBC_good {zc u : CS} {x : Int32} {y : Int32} {wh : Int32} {r : Int32} (h : pC_good zc x y wh r u) : fB u = fB zc := by
  rcases h with ⟨_, _, _, _, rfl⟩ | ⟨_, _, _, _, rfl⟩ | ⟨_, _, _, rfl⟩ | ⟨_, _, rfl⟩
  all_goals rfl
theorem frBR_good {zr u : RS2} {x : Int32} {y : Int32} {wh : Int32} {r : Int32} (h : pR_good zr x y wh r u) : gB u = gB zr := by
  rcases h with ⟨_, _, _, _, rfl⟩ | ⟨_, _, _, _, rfl⟩ | ⟨_, _, _, rfl⟩ | ⟨_, _, rfl⟩
  all_goals rfl
theorem frBC_money {zc u : CS} {t : Int32} {wh : Int32} {r : Int64} (h : pC_money zc t wh r u) : fB u = fB zc := by
  rcases h with ⟨_, _, rfl⟩ | ⟨_, _, _, _, _, rfl⟩ | ⟨_, _, _, _, _, rfl⟩ | ⟨_, _, _, _, _, rfl⟩ | ⟨_, _, _, _, _, rfl⟩ | ⟨_, _, _, _, _, rfl⟩ | ⟨_, _, _, _, _, rfl⟩ | ⟨_, _, _, _, _, _, _, _, _, _, rfl⟩
  all_goals rfl
theorem frBR_money {zr u : RS2} {t : Int32} {wh : Int32} {r : Int64} (h : pR_money zr t wh r u) : gB u = gB zr := by
  rcases h with ⟨_, _, rfl⟩ | ⟨_, _, _, _, _, rfl⟩ | ⟨_, _, _, _, _, rfl⟩ | ⟨_, _, _, _, _, rfl⟩ | ⟨_, _, _, _, _, rfl⟩ | ⟨_, _, _, _, _, rfl⟩ | ⟨_, _, _, _, _, rfl⟩ | ⟨_, _, _, _, _, _, _, _, _, _, rfl⟩
  all_goals rfl
theorem frBC_spend {zc u : CS} {t : Int32} {wh : Int32} {pn : Int32} {r : Int64} (h : pC_spend zc t wh pn r u) : fB u = fB zc := by
  rcases h with ⟨_, _, rfl⟩ | ⟨_, _, _, _, _, rfl⟩ | ⟨_, _, _, _, _, _, _, _, rfl⟩ | ⟨_, _, _, _, _, _, _, _, rfl⟩ | ⟨_, _, _, _, _, _, _, rfl⟩ | ⟨_, _, _, _, _, _, rfl⟩
  all_goals rfl
theorem frBR_spend {zr u : RS2} {t : Int32} {wh : Int32} {pn : Int32} {r : Int64} (h : pR_spend zr t wh pn r u) : gB u = gB zr := by
  rcases h with ⟨_, _, rfl⟩ | ⟨_, _, _, _, _, rfl⟩ | ⟨_, _, _, _, _, _, rfl⟩ | ⟨_, _, _, _, _, _, _, _, _, _, rfl⟩ | ⟨_, _, _, _, _, _, _, _, _, _, rfl⟩ | ⟨_, _, _, _, _, _, _, _, _, _, rfl⟩ | ⟨_, _, _, _, _, _, _, _, _, _, rfl⟩ | ⟨_, _, _, _, _, _, _, _, _, _, rfl⟩ | ⟨_, _, _, _, _, _, _, _, _, _, rfl⟩ | ⟨_, _, _, _, _, _, _, _, _, _, rfl⟩ | ⟨_, _, _, _, _, _, _, _, _, _, rfl⟩ | ⟨_, _, _, _, _, _, _, rfl⟩
  all_goals rfl
theorem frBC_debt {zc u : CS} {g : Int32} {r : Int64} (h : pC_debt zc g r u) : fB u = fB zc := by
  rcases h with ⟨_, _, rfl⟩ | ⟨_, _, _, _, _, rfl⟩ | ⟨_, _, _, _, _, rfl⟩ | ⟨_, _, _, _, _, rfl⟩
  all_goals rfl
theorem frBR_debt {zr u : RS2} {g : Int32} {r : Int64} (h : pR_debt zr g r u) : gB u = gB zr := by
  rcases h with ⟨_, _, rfl⟩ | ⟨_, _, _, _, rfl⟩
  all_goals rfl
theorem frBC_tell {zc u : CS} {g : Int32} {r : Int32} (h : pC_tell zc g r u) : fB u = fB zc := by
  rcases h with ⟨_, _, rfl⟩ | ⟨_, _, _, _, _, rfl⟩ | ⟨_, _, _, _, _, rfl⟩ | ⟨_, _, _, _, _, rfl⟩
  all_goals rfl
theorem frBR_tell {zr u : RS2} {g : Int32} {r : Int32} (h : pR_tell zr g r u) : gB u = gB zr := by
  rcases h with ⟨_, _, rfl⟩ | ⟨_, _, _, _, _, _, _, rfl⟩ | ⟨_, _, _, _, _, _, _, rfl⟩ | ⟨_, _, _, _, _, _, rfl⟩ | ⟨_, _, _, _, _, _, _, _, rfl⟩ | ⟨_, _, _, _, _, _, _, _, rfl⟩ | ⟨_, _, _, _, _, _, _, rfl⟩ | ⟨_, _, _, _, _, _, _, _, rfl⟩ | ⟨_, _, _, _, _, _, _, _, rfl⟩ | ⟨_, _, _, _, _, _, _, rfl⟩
  all_goals rfl
theorem frBC_greet {zc u : CS} {g : Int32} {r : Int32} (h : pC_greet zc g r u) : fB u = fB zc := by
  rcases h with ⟨_, _, rfl⟩ | ⟨_, _, _, _, _, rfl⟩ | ⟨_, _, _, _, _, rfl⟩ | ⟨_, _, _, _, _, rfl⟩
  all_goals rfl
theorem frBR_greet {zr u : RS2} {g : Int32} {r : Int32} (h : pR_greet zr g r u) : gB u = gB zr := by
  rcases h with ⟨_, _, rfl⟩ | ⟨_, _, _, _, _, _, _, rfl⟩ | ⟨_, _, _, _, _, _, _, rfl⟩ | ⟨_, _, _, _, _, _, _, rfl⟩ | ⟨_, _, _, _, _, _, _, rfl⟩ | ⟨_, _, _, _, _, rfl⟩
  all_goals rfl
theorem frBC_as {zc u : CS} {g : Int32} {k : Int32} {r : Int32} (h : pC_as zc g k r u) : fB u = fB zc := by
  rcases h with ⟨_, _, rfl⟩ | ⟨_, _, _, _, _, _, _, rfl⟩ | ⟨_, _, _, _, _, _, _, rfl⟩ | ⟨_, _, _, _, _, _, rfl⟩ | ⟨_, _, _, _, _, _, _, rfl⟩ | ⟨_, _, _, _, _, _, _, rfl⟩ | ⟨_, _, _, _, _, _, rfl⟩ | ⟨_, _, _, _, _, _, _, rfl⟩ | ⟨_, _, _, _, _, _, _, rfl⟩ | ⟨_, _, _, _, _, _, rfl⟩
  all_goals rfl
theorem frBR_as {zr u : RS2} {g : Int32} {k : Int32} {r : Int32} (h : pR_as zr g k r u) : gB u = gB zr := by
  rcases h with ⟨_, _, rfl⟩ | ⟨_, _, _, _, _, _, rfl⟩ | ⟨_, _, _, _, _, _, rfl⟩ | ⟨_, _, _, _, _, rfl⟩
  all_goals rfl
theorem frBC_taken {zc u : CS} {t : Int32} {wh : Int32} {r : Int32} (h : pC_taken zc t wh r u) : fB u = fB zc := by
  rcases h with ⟨_, _, rfl⟩ | ⟨_, _, _, _, _, _, rfl⟩ | ⟨_, _, _, _, _, _, rfl⟩ | ⟨_, _, _, _, _, _, rfl⟩ | ⟨_, _, _, _, _, _, _, rfl⟩ | ⟨_, _, _, _, _, _, _, rfl⟩ | ⟨_, _, _, _, _, _, rfl⟩ | ⟨_, _, _, _, _, _, _, _, _, _, rfl⟩ | ⟨_, _, _, _, _, _, rfl⟩ | ⟨_, _, _, _, _, _, rfl⟩ | ⟨_, _, _, _, _, _, rfl⟩ | ⟨_, _, _, _, _, _, _, rfl⟩ | ⟨_, _, _, _, _, _, _, rfl⟩ | ⟨_, _, _, _, _, _, rfl⟩ | ⟨_, _, _, _, _, _, _, _, _, _, rfl⟩ | ⟨_, _, _, _, _, _, rfl⟩ | ⟨_, _, _, _, _, _, rfl⟩ | ⟨_, _, _, _, _, _, rfl⟩ | ⟨_, _, _, _, _, _, _, rfl⟩ | ⟨_, _, _, _, _, _, _, rfl⟩ | ⟨_, _, _, _, _, _, rfl⟩ | ⟨_, _, _, _, _, _, _, _, _, _, rfl⟩
  all_goals rfl
theorem frBR_taken {zr u : RS2} {t : Int32} {wh : Int32} {r : Int32} (h : pR_taken zr t wh r u) : gB u = gB zr := by
  rcases h with ⟨_, _, rfl⟩ | ⟨_, _, _, _, _, rfl⟩ | ⟨_, _, _, _, _, rfl⟩ | ⟨_, _, _, _, _, rfl⟩ | ⟨_, _, _, _, _, _, rfl⟩ | ⟨_, _, _, _, _, _, rfl⟩ | ⟨_, _, _, _, _, rfl⟩ | ⟨_, _, _, _, _, _, _, _, _, rfl⟩
  all_goals rfl
theorem frBC_settle {zc u : CS} {t : Int32} {r : Int64} (h : pC_settle zc t r u) : fB u = fB zc := by
  rcases h with ⟨_, _, rfl⟩ | ⟨_, _, _, _, _, _, rfl⟩ | ⟨_, _, _, _, _, _, rfl⟩ | ⟨_, _, _, _, _, _, rfl⟩ | ⟨_, _, _, _, _, _, rfl⟩ | ⟨_, _, _, _, _, _, rfl⟩ | ⟨_, _, _, _, _, _, rfl⟩
  all_goals rfl
theorem frBR_settle {zr u : RS2} {t : Int32} {r : Int64} (h : pR_settle zr t r u) : gB u = gB zr := by
  rcases h with ⟨_, _, rfl⟩ | ⟨_, _, _, _, _, _, _, _, _, _, _, _, rfl⟩ | ⟨_, _, _, _, _, _, _, _, _, _, _, _, rfl⟩ | ⟨_, _, _, _, _, _, _, _, _, _, _, _, rfl⟩ | ⟨_, _, _, _, _, _, _, _, _, _, _, _, rfl⟩ | ⟨_, _, _, _, _, _, _, _, _, _, _, _, rfl⟩ | ⟨_, _, _, _, _, _, _, _, _, _, _, _, rfl⟩ | ⟨_, _, _, _, _, _, _, _, _, _, _, _, rfl⟩ | ⟨_, _, _, _, _, _, _, _, _, _, _, _, rfl⟩ | ⟨_, _, _, _, _, _, _, _, _, _, _, _, rfl⟩ | ⟨_, _, _, _, _, _, _, _, _, _, _, _, rfl⟩ | ⟨_, _, _, _, _, _, _, _, _, _, _, _, rfl⟩ | ⟨_, _, _, _, _, _, _, _, _, _, _, _, rfl⟩ | ⟨_, _, _, _, _, _, _, _, _, _, _, _, rfl⟩ | ⟨_, _, _, _, _, _, _, _, _, _, _, _, rfl⟩ | ⟨_, _, _, _, _, _, _, _, _, _, _, _, rfl⟩ | ⟨_, _, _, _, _, _, _, _, _, _, _, _, rfl⟩ | ⟨_, _, _, _, _, rfl⟩
  all_goals rfl
theorem frBC_about {zc u : CS} {pp : Int32} {wh : Int32} {r : Int32} (h : pC_about zc pp wh r u) : fB u = fB zc := by
  rcases h with ⟨_, _, rfl⟩ | ⟨_, _, _, _, _, _, rfl⟩ | ⟨_, _, _, _, _, _, rfl⟩ | ⟨_, _, _, _, _, _, rfl⟩ | ⟨_, _, _, _, _, _, rfl⟩ | ⟨_, _, _, _, _, _, rfl⟩ | ⟨_, _, _, _, _, _, rfl⟩ | ⟨_, _, _, _, _, _, rfl⟩ | ⟨_, _, _, _, _, _, _, _, _, _, _, _, rfl⟩ | ⟨_, _, _, _, _, _, rfl⟩ | ⟨_, _, _, _, _, _, rfl⟩ | ⟨_, _, _, _, _, _, rfl⟩ | ⟨_, _, _, _, _, _, rfl⟩ | ⟨_, _, _, _, _, _, rfl⟩ | ⟨_, _, _, _, _, _, rfl⟩ | ⟨_, _, _, _, _, _, rfl⟩ | ⟨_, _, _, _, _, _, _, _, _, _, _, _, rfl⟩
  all_goals rfl
theorem frBR_about {zr u : RS2} {pp : Int32} {wh : Int32} {r : Int32} (h : pR_about zr pp wh r u) : gB u = gB zr := by
  rcases h with ⟨_, _, rfl⟩ | ⟨_, _, _, _, _, rfl⟩ | ⟨_, _, _, _, _, rfl⟩ | ⟨_, _, _, _, _, rfl⟩ | ⟨_, _, _, _, _, rfl⟩ | ⟨_, _, _, _, _, rfl⟩ | ⟨_, _, _, _, _, _, _, rfl⟩ | ⟨_, _, _, _, _, rfl⟩ | ⟨_, _, _, _, _, _, _, _, _, _, _, rfl⟩
  all_goals rfl
theorem frBC_gang {zc u : CS} {k : Int32} {r : Int32} (h : pC_gang zc k r u) : fB u = fB zc := by
  rcases h with ⟨_, _, _, _, _, _, rfl⟩ | ⟨_, _, _, _, _, _, rfl⟩ | ⟨_, _, _, _, _, _, rfl⟩ | ⟨_, _, _, rfl⟩ | ⟨_, _, rfl⟩
  all_goals rfl
theorem frBR_gang {zr u : RS2} {k : Int32} {r : Int32} (h : pR_gang zr k r u) : gB u = gB zr := by
  rcases h with ⟨_, _, _, _, rfl⟩ | ⟨_, _, _, rfl⟩ | ⟨_, _, rfl⟩
  all_goals rfl
theorem frBC_parcel {zc u : CS} {t : Int32} {tn : Int32} {gd : Int32} {r : Int32} (h : pC_parcel zc t tn gd r u) : fB u = fB zc := by
  rcases h with ⟨_, _, rfl⟩ | ⟨_, _, _, _, _, rfl⟩ | ⟨_, _, _, _, _, _, _, _, _, _, rfl⟩ | ⟨_, _, _, _, _, _, _, _, rfl⟩ | ⟨_, _, _, _, _, _, _, rfl⟩ | ⟨_, _, _, _, _, _, rfl⟩
  all_goals rfl
theorem frBR_parcel {zr u : RS2} {t : Int32} {tn : Int32} {gd : Int32} {r : Int32} (h : pR_parcel zr t tn gd r u) : gB u = gB zr := by
  rcases h with ⟨_, _, rfl⟩ | ⟨_, _, _, _, _, rfl⟩ | ⟨_, _, _, _, _, _, _, _, _, rfl⟩ | ⟨_, _, _, _, _, _, _, _, rfl⟩ | ⟨_, _, _, _, _, _, _, rfl⟩ | ⟨_, _, _, _, _, _, rfl⟩
  all_goals rfl
theorem frBC_pitch {zc u : CS} {x : Int32} {y : Int32} {xx : Int32} {yy : Int32} {tn : Int32} {r : Int32} (h : pC_pitch zc x y xx yy tn r u) : fB u = fB zc := by
  rcases h with ⟨_, _, rfl⟩ | ⟨_, _, _, _, rfl⟩ | ⟨_, _, _, _, _, rfl⟩ | ⟨_, _, _, _, _, _, _, _, _, _, rfl⟩ | ⟨_, _, _, _, _, _, _, _, rfl⟩ | ⟨_, _, _, _, _, _, _, rfl⟩ | ⟨_, _, _, _, _, _, rfl⟩ | ⟨_, _, _, rfl⟩
  all_goals rfl
theorem frBR_pitch {zr u : RS2} {x : Int32} {y : Int32} {xx : Int32} {yy : Int32} {tn : Int32} {r : Int32} (h : pR_pitch zr x y xx yy tn r u) : gB u = gB zr := by
  rcases h with ⟨_, _, rfl⟩ | ⟨_, _, _, _, rfl⟩ | ⟨_, _, _, _, _, rfl⟩ | ⟨_, _, _, _, _, _, _, _, _, rfl⟩ | ⟨_, _, _, _, _, _, _, _, rfl⟩ | ⟨_, _, _, _, _, _, _, _, _, rfl⟩ | ⟨_, _, _, _, _, _, rfl⟩ | ⟨_, _, _, rfl⟩
  all_goals rfl
theorem frBC_auction {zc u : CS} {pp : Int32} {sv : Int32} {r : Int32} (h : pC_auction zc pp sv r u) : fB u = fB zc := by
  rcases h with ⟨_, _, rfl⟩ | ⟨_, _, _, _, _, _, _, _, rfl⟩ | ⟨_, _, _, _, _, _, _, rfl⟩ | ⟨_, _, _, _, _, _, _, rfl⟩ | ⟨_, _, _, _, _, _, _, rfl⟩ | ⟨_, _, _, _, _, _, rfl⟩ | ⟨_, _, _, _, _, _, rfl⟩
  all_goals rfl
theorem frBR_auction {zr u : RS2} {pp : Int32} {sv : Int32} {r : Int32} (h : pR_auction zr pp sv r u) : gB u = gB zr := by
  rcases h with ⟨_, _, rfl⟩ | ⟨_, _, _, _, _, _, _, _, rfl⟩ | ⟨_, _, _, _, _, _, _, _, _, rfl⟩ | ⟨_, _, _, _, _, _, _, _, _, rfl⟩ | ⟨_, _, _, _, _, rfl⟩
  all_goals rfl
theorem frBC_bid {zc u : CS} {g : Int32} {sv : Int32} {r : Int32} (h : pC_bid zc g sv r u) : fB u = fB zc := by
  rcases h with ⟨_, _, rfl⟩ | ⟨_, _, _, _, _, rfl⟩ | ⟨_, _, _, _, _, _, _, _, _, _, _, rfl⟩ | ⟨_, _, _, _, _, _, _, _, _, _, _, rfl⟩ | ⟨_, _, _, _, _, _, _, _, _, _, rfl⟩ | ⟨_, _, _, _, _, _, _, _, rfl⟩ | ⟨_, _, _, _, _, _, _, _, _, _, _, rfl⟩ | ⟨_, _, _, _, _, _, _, _, _, _, _, rfl⟩ | ⟨_, _, _, _, _, _, _, _, _, _, rfl⟩ | ⟨_, _, _, _, _, _, _, _, rfl⟩ | ⟨_, _, _, _, _, _, _, _, _, _, _, rfl⟩ | ⟨_, _, _, _, _, _, _, _, _, _, _, rfl⟩ | ⟨_, _, _, _, _, _, _, _, _, _, rfl⟩ | ⟨_, _, _, _, _, _, _, _, rfl⟩ | ⟨_, _, _, _, _, _, _, _, _, rfl⟩ | ⟨_, _, _, _, _, _, _, _, _, _, _, rfl⟩ | ⟨_, _, _, _, _, _, _, _, _, _, _, rfl⟩ | ⟨_, _, _, _, _, _, _, _, _, _, rfl⟩ | ⟨_, _, _, _, _, _, _, _, rfl⟩ | ⟨_, _, _, _, _, _, _, _, _, rfl⟩ | ⟨_, _, _, _, _, _, _, _, _, _, _, rfl⟩ | ⟨_, _, _, _, _, _, _, _, _, _, _, rfl⟩ | ⟨_, _, _, _, _, _, _, _, _, _, rfl⟩ | ⟨_, _, _, _, _, _, _, _, rfl⟩ | ⟨_, _, _, _, _, _, _, _, _, rfl⟩ | ⟨_, _, _, _, _, _, _, _, _, _, _, rfl⟩ | ⟨_, _, _, _, _, _, _, _, _, _, _, rfl⟩ | ⟨_, _, _, _, _, _, _, _, _, _, rfl⟩ | ⟨_, _, _, _, _, _, _, _, rfl⟩
  all_goals rfl
theorem frBR_bid {zr u : RS2} {g : Int32} {sv : Int32} {r : Int32} (h : pR_bid zr g sv r u) : gB u = gB zr := by
  rcases h with ⟨_, _, rfl⟩ | ⟨_, _, _, _, _, _, _, _, rfl⟩ | ⟨_, _, _, _, _, _, _, _, _, _, rfl⟩ | ⟨_, _, _, _, _, _, _, _, _, _, rfl⟩ | ⟨_, _, _, _, _, _, _, _, _, rfl⟩ | ⟨_, _, _, _, _, _, _, rfl⟩ | ⟨_, _, _, _, _, _, _, _, rfl⟩ | ⟨_, _, _, _, _, _, _, _, _, _, rfl⟩ | ⟨_, _, _, _, _, _, _, _, _, _, rfl⟩ | ⟨_, _, _, _, _, _, _, _, _, rfl⟩ | ⟨_, _, _, _, _, _, _, rfl⟩ | ⟨_, _, _, _, _, rfl⟩
  all_goals rfl
theorem frBC_strike {zc u : CS} {r : Int32} (h : pC_strike zc r u) : fB u = fB zc := by
  rcases h with ⟨_, _, rfl⟩ | ⟨_, _, _, rfl⟩ | ⟨_, _, _, _, _, _, _, _, _, _, _, rfl⟩ | ⟨_, _, _, _, _, rfl⟩ | ⟨_, _, _, _, _, _, _, _, _, _, _, rfl⟩ | ⟨_, _, _, _, _, rfl⟩ | ⟨_, _, _, _, _, _, _, _, _, _, _, rfl⟩ | ⟨_, _, _, _, _, rfl⟩
  all_goals rfl
theorem frBR_strike {zr u : RS2} {r : Int32} (h : pR_strike zr r u) : gB u = gB zr := by
  rcases h with ⟨_, _, _, rfl⟩ | ⟨_, _, _, _, _, _, _, _, _, rfl⟩ | ⟨_, _, _, _, _, _, _, _, rfl⟩ | ⟨_, _, _, _, _, _, _, rfl⟩
  all_goals rfl
theorem frBC_foretold {zc u : CS} {pp : Int32} {wh : Int32} {r : Int64} (h : pC_foretold zc pp wh r u) : fB u = fB zc := by
  rcases h with ⟨_, _, rfl⟩ | ⟨_, _, _, _, _, _, rfl⟩ | ⟨_, _, _, _, _, _, rfl⟩ | ⟨_, _, _, _, _, rfl⟩
  all_goals rfl
theorem frBR_foretold {zr u : RS2} {pp : Int32} {wh : Int32} {r : Int64} (h : pR_foretold zr pp wh r u) : gB u = gB zr := by
  rcases h with ⟨_, _, rfl⟩ | ⟨_, _, _, _, _, _, rfl⟩ | ⟨_, _, _, _, _, _, rfl⟩ | ⟨_, _, _, _, _, rfl⟩
  all_goals rfl
theorem frBC_cell {zc u : CS} {k : Int32} {ix : Int32} {ln : Int32} {r : Int64} (h : pC_cell zc k ix ln r u) : fB u = fB zc := by
  rcases h with ⟨_, _, rfl⟩ | ⟨_, _, _, _, _, _, rfl⟩ | ⟨_, _, _, _, _, _, _, _, rfl⟩ | ⟨_, _, _, _, _, _, _, _, rfl⟩ | ⟨_, _, _, _, _, _, _, rfl⟩ | ⟨_, _, _, _, _, rfl⟩
  all_goals rfl
theorem frBR_cell {zr u : RS2} {k : Int32} {i : Int32} {ln : Int32} {r : Int64} (h : pR_cell zr k i ln r u) : gB u = gB zr := by
  rcases h with ⟨_, _, rfl⟩ | ⟨_, _, _, _, _, _, _, _, _, _, rfl⟩ | ⟨_, _, _, _, _, _, _, rfl⟩ | ⟨_, _, _, _, _, _, _, _, _, _, _, rfl⟩ | ⟨_, _, _, _, _, _, _, _, rfl⟩ | ⟨_, _, _, _, _, _, _, rfl⟩ | ⟨_, _, _, _, _, rfl⟩
  all_goals rfl
theorem frBC_find {zc u : CS} {x : Int32} {y : Int32} {lo : Int32} {hi : Int32} {r : Int32} (h : pC_find zc x y lo hi r u) : fB u = fB zc := by
  rcases h with ⟨_, _, _, rfl⟩ | ⟨_, _, _, _, rfl⟩ | ⟨_, _, _, _, _, _, _, _, _, _, _, _, _, _, _, rfl⟩ | ⟨_, _, _, _, _, rfl⟩ | ⟨_, _, rfl⟩
  all_goals rfl
theorem frBR_find {zr u : RS2} {x : Int32} {y : Int32} {lo : Int32} {hi : Int32} {r : Int32} (h : pR_find zr x y lo hi r u) : gB u = gB zr := by
  rcases h with ⟨_, _, _, rfl⟩ | ⟨_, _, _, _, _, _, _, _, _, _, _, _, _, _, _, _, _, _, _, rfl⟩ | ⟨_, _, _, _, rfl⟩ | ⟨_, _, rfl⟩
  all_goals rfl
theorem frBC_rise {zc u : CS} {dd : Int32} {r : Int32} (h : pC_rise zc dd r u) : fB u = fB zc := by
  rcases h with ⟨_, _, _, _, _, _, _, _, _, _, rfl⟩ | ⟨_, _, _, rfl⟩ | ⟨_, _, rfl⟩
  all_goals rfl
theorem frBR_rise {zr u : RS2} {dd : Int32} {r : Int32} (h : pR_rise zr dd r u) : gB u = gB zr := by
  rcases h with ⟨_, _, _, _, _, _, _, _, _, _, _, rfl⟩ | ⟨_, _, _, rfl⟩ | ⟨_, _, rfl⟩
  all_goals rfl
theorem frBC_suspects {zc u : CS} {r : Int32} (h : pC_suspects zc r u) : fB u = fB zc := by
  rcases h with ⟨_, rfl⟩
  all_goals rfl
theorem frBR_suspects {zr u : RS2} {r : Int32} (h : pR_suspects zr r u) : gB u = gB zr := by
  rcases h with ⟨_, rfl⟩
  all_goals rfl
theorem frBC_suspect {zc u : CS} {ix : Int32} {r : Int32} (h : pC_suspect zc ix r u) : fB u = fB zc := by
  rcases h with ⟨_, _, rfl⟩ | ⟨_, _, _, _, _, rfl⟩
  all_goals rfl
theorem frBR_suspect {zr u : RS2} {ix : Int32} {r : Int32} (h : pR_suspect zr ix r u) : gB u = gB zr := by
  rcases h with ⟨_, _, rfl⟩ | ⟨_, _, _, _, _, rfl⟩
  all_goals rfl
theorem frBC_skill {zc u : CS} {g : Int32} {wh : Int32} {r : Int64} (h : pC_skill zc g wh r u) : fB u = fB zc := by
  rcases h with ⟨_, _, rfl⟩ | ⟨_, _, _, _, _, _, _, _, _, rfl⟩ | ⟨_, _, _, _, _, _, _, _, _, rfl⟩ | ⟨_, _, _, _, _, _, _, _, _, rfl⟩ | ⟨_, _, _, _, _, _, _, _, _, rfl⟩ | ⟨_, _, _, _, _, rfl⟩
  all_goals rfl
theorem frBR_skill {zr u : RS2} {g : Int32} {wh : Int32} {r : Int64} (h : pR_skill zr g wh r u) : gB u = gB zr := by
  rcases h with ⟨_, _, rfl⟩ | ⟨_, _, _, _, _, _, _, _, _, rfl⟩ | ⟨_, _, _, _, _, _, _, _, _, rfl⟩ | ⟨_, _, _, _, _, _, rfl⟩ | ⟨_, _, _, _, _, rfl⟩
  all_goals rfl
theorem frBC_chart {zc u : CS} {k : Int32} {ln : Int32} {ix : Int32} {n : Int32} {sv : Int32} {r : Int32} (h : pC_chart zc k ln ix n sv r u) : fB u = fB zc := by
  rcases h with ⟨_, _, rfl⟩ | ⟨_, _, _, _, _, _, _, _, _, _, _, _, _, _, _, _, _, _, rfl⟩ | ⟨_, _, _, _, _, _, _, _, _, _, _, _, _, _, _, _, _, _, _, _, _, _, _, _, _, _, _, _, _, rfl⟩ | ⟨_, _, _, _, _, _, _, _, _, _, _, _, _, _, _, _, _, _, rfl⟩ | ⟨_, _, _, _, _, _, _, rfl⟩ | ⟨_, _, _, _, _, _, rfl⟩ | ⟨_, _, _, _, _, rfl⟩
  all_goals rfl
theorem frBR_chart {zr u : RS2} {k : Int32} {ln : Int32} {ix : Int32} {nq : Int32} {sv : Int32} {r : Int32} (h : pR_chart zr k ln ix nq sv r u) : gB u = gB zr := by
  rcases h with ⟨_, _, rfl⟩ | ⟨_, _, _, _, _, _, _, _, _, _, rfl⟩ | ⟨_, _, _, _, _, _, _, _, _, _, _, _, _, _, _, _, _, _, _, _, _, _, _, _, _, _, _, _, _, _, _, _, rfl⟩ | ⟨_, _, _, _, _, _, _, _, _, _, _, _, _, _, _, _, _, _, _, _, _, _, _, _, _, _, rfl⟩ | ⟨_, _, _, _, _, _, _, _, _, _, _, rfl⟩ | ⟨_, _, _, _, _, _, _, _, _, rfl⟩ | ⟨_, _, _, _, _, _, _, _, rfl⟩ | ⟨_, _, _, _, _, _, _, _, _, _, _, rfl⟩ | ⟨_, _, _, _, _, _, _, _, _, _, _, _, _, _, _, _, _, _, _, _, _, _, _, _, _, _, _, _, _, _, _, _, _, rfl⟩ | ⟨_, _, _, _, _, _, _, _, _, _, _, _, _, _, _, _, _, _, _, _, _, _, _, _, _, _, _, rfl⟩ | ⟨_, _, _, _, _, _, _, _, _, _, _, _, rfl⟩ | ⟨_, _, _, _, _, _, _, _, _, _, rfl⟩ | ⟨_, _, _, _, _, _, _, _, _, rfl⟩ | ⟨_, _, _, _, _, _, _, _, rfl⟩ | ⟨_, _, _, _, _, _, rfl⟩ | ⟨_, _, _, _, _, rfl⟩
  all_goals rfl
theorem stB_trace {zc u : CS} {zr w9 : RS2} {r r' : Int32} (h : relB zc zr) (hc : pC_trace zc r u) (hr : pR_trace zr r' w9) : relB u w9 := relB_of (frBC_trace hc) (frBR_trace hr) h
theorem stB_fault {zc u : CS} {zr w9 : RS2} {r r' : Int32} (h : relB zc zr) (hc : pC_fault zc r u) (hr : pR_fault zr r' w9) : relB u w9 := relB_of (frBC_fault hc) (frBR_fault hr) h
theorem stB_told {zc u : CS} {zr w9 : RS2} {a0 : Int32} {r r' : Int32} (h : relB zc zr) (hc : pC_told zc a0 r u) (hr : pR_told zr a0 r' w9) : relB u w9 := relB_of (frBC_told hc) (frBR_told hr) h
theorem stB_good {zc u : CS} {zr w9 : RS2} {x : Int32} {y : Int32} {wh : Int32} {r r' : Int32} (h : relB zc zr) (hc : pC_good zc x y wh r u) (hr : pR_good zr x y wh r' w9) : relB u w9 := relB_of (frBC_good hc) (frBR_good hr) h
theorem stB_money {zc u : CS} {zr w9 : RS2} {t : Int32} {wh : Int32} {r r' : Int64} (h : relB zc zr) (hc : pC_money zc t wh r u) (hr : pR_money zr t wh r' w9) : relB u w9 := relB_of (frBC_money hc) (frBR_money hr) h
theorem stB_spend {zc u : CS} {zr w9 : RS2} {t : Int32} {wh : Int32} {pn : Int32} {r r' : Int64} (h : relB zc zr) (hc : pC_spend zc t wh pn r u) (hr : pR_spend zr t wh pn r' w9) : relB u w9 := relB_of (frBC_spend hc) (frBR_spend hr) h
theorem stB_debt {zc u : CS} {zr w9 : RS2} {g : Int32} {r r' : Int64} (h : relB zc zr) (hc : pC_debt zc g r u) (hr : pR_debt zr g r' w9) : relB u w9 := relB_of (frBC_debt hc) (frBR_debt hr) h
theorem stB_tell {zc u : CS} {zr w9 : RS2} {g : Int32} {r r' : Int32} (h : relB zc zr) (hc : pC_tell zc g r u) (hr : pR_tell zr g r' w9) : relB u w9 := relB_of (frBC_tell hc) (frBR_tell hr) h
theorem stB_greet {zc u : CS} {zr w9 : RS2} {g : Int32} {r r' : Int32} (h : relB zc zr) (hc : pC_greet zc g r u) (hr : pR_greet zr g r' w9) : relB u w9 := relB_of (frBC_greet hc) (frBR_greet hr) h
theorem stB_as {zc u : CS} {zr w9 : RS2} {g : Int32} {k : Int32} {r r' : Int32} (h : relB zc zr) (hc : pC_as zc g k r u) (hr : pR_as zr g k r' w9) : relB u w9 := relB_of (frBC_as hc) (frBR_as hr) h
theorem stB_taken {zc u : CS} {zr w9 : RS2} {t : Int32} {wh : Int32} {r r' : Int32} (h : relB zc zr) (hc : pC_taken zc t wh r u) (hr : pR_taken zr t wh r' w9) : relB u w9 := relB_of (frBC_taken hc) (frBR_taken hr) h
theorem stB_settle {zc u : CS} {zr w9 : RS2} {t : Int32} {r r' : Int64} (h : relB zc zr) (hc : pC_settle zc t r u) (hr : pR_settle zr t r' w9) : relB u w9 := relB_of (frBC_settle hc) (frBR_settle hr) h
theorem stB_about {zc u : CS} {zr w9 : RS2} {pp : Int32} {wh : Int32} {r r' : Int32} (h : relB zc zr) (hc : pC_about zc pp wh r u) (hr : pR_about zr pp wh r' w9) : relB u w9 := relB_of (frBC_about hc) (frBR_about hr) h
theorem stB_gang {zc u : CS} {zr w9 : RS2} {k : Int32} {r r' : Int32} (h : relB zc zr) (hc : pC_gang zc k r u) (hr : pR_gang zr k r' w9) : relB u w9 := relB_of (frBC_gang hc) (frBR_gang hr) h
theorem stB_parcel {zc u : CS} {zr w9 : RS2} {t : Int32} {tn : Int32} {gd : Int32} {r r' : Int32} (h : relB zc zr) (hc : pC_parcel zc t tn gd r u) (hr : pR_parcel zr t tn gd r' w9) : relB u w9 := relB_of (frBC_parcel hc) (frBR_parcel hr) h
theorem stB_pitch {zc u : CS} {zr w9 : RS2} {x : Int32} {y : Int32} {xx : Int32} {yy : Int32} {tn : Int32} {r r' : Int32} (h : relB zc zr) (hc : pC_pitch zc x y xx yy tn r u) (hr : pR_pitch zr x y xx yy tn r' w9) : relB u w9 := relB_of (frBC_pitch hc) (frBR_pitch hr) h
theorem stB_auction {zc u : CS} {zr w9 : RS2} {pp : Int32} {sv : Int32} {r r' : Int32} (h : relB zc zr) (hc : pC_auction zc pp sv r u) (hr : pR_auction zr pp sv r' w9) : relB u w9 := relB_of (frBC_auction hc) (frBR_auction hr) h
theorem stB_bid {zc u : CS} {zr w9 : RS2} {g : Int32} {sv : Int32} {r r' : Int32} (h : relB zc zr) (hc : pC_bid zc g sv r u) (hr : pR_bid zr g sv r' w9) : relB u w9 := relB_of (frBC_bid hc) (frBR_bid hr) h
theorem stB_strike {zc u : CS} {zr w9 : RS2} {r r' : Int32} (h : relB zc zr) (hc : pC_strike zc r u) (hr : pR_strike zr r' w9) : relB u w9 := relB_of (frBC_strike hc) (frBR_strike hr) h
theorem stB_foretold {zc u : CS} {zr w9 : RS2} {pp : Int32} {wh : Int32} {r r' : Int64} (h : relB zc zr) (hc : pC_foretold zc pp wh r u) (hr : pR_foretold zr pp wh r' w9) : relB u w9 := relB_of (frBC_foretold hc) (frBR_foretold hr) h
theorem stB_cell {zc u : CS} {zr w9 : RS2} {k : Int32} {ix : Int32} {ln : Int32} {r r' : Int64} (h : relB zc zr) (hc : pC_cell zc k ix ln r u) (hr : pR_cell zr k ix ln r' w9) : relB u w9 := relB_of (frBC_cell hc) (frBR_cell hr) h
theorem stB_find {zc u : CS} {zr w9 : RS2} {x : Int32} {y : Int32} {lo : Int32} {hi : Int32} {r r' : Int32} (h : relB zc zr) (hc : pC_find zc x y lo hi r u) (hr : pR_find zr x y lo hi r' w9) : relB u w9 := relB_of (frBC_find hc) (frBR_find hr) h
theorem stB_rise {zc u : CS} {zr w9 : RS2} {dd : Int32} {r r' : Int32} (h : relB zc zr) (hc : pC_rise zc dd r u) (hr : pR_rise zr dd r' w9) : relB u w9 := relB_of (frBC_rise hc) (frBR_rise hr) h
theorem stB_suspects {zc u : CS} {zr w9 : RS2} {r r' : Int32} (h : relB zc zr) (hc : pC_suspects zc r u) (hr : pR_suspects zr r' w9) : relB u w9 := relB_of (frBC_suspects hc) (frBR_suspects hr) h
theorem stB_suspect {zc u : CS} {zr w9 : RS2} {ix : Int32} {r r' : Int32} (h : relB zc zr) (hc : pC_suspect zc ix r u) (hr : pR_suspect zr ix r' w9) : relB u w9 := relB_of (frBC_suspect hc) (frBR_suspect hr) h
theorem stB_skill {zc u : CS} {zr w9 : RS2} {g : Int32} {wh : Int32} {r r' : Int64} (h : relB zc zr) (hc : pC_skill zc g wh r u) (hr : pR_skill zr g wh r' w9) : relB u w9 := relB_of (frBC_skill hc) (frBR_skill hr) h
theorem stB_chart {zc u : CS} {zr w9 : RS2} {k : Int32} {ln : Int32} {ix : Int32} {n : Int32} {sv : Int32} {r r' : Int32} (h : relB zc zr) (hc : pC_chart zc k ln ix n sv r u) (hr : pR_chart zr k ln ix n sv r' w9) : relB u w9 := relB_of (frBC_chart hc) (frBR_chart hr) h
theorem zfill_in {b : Nat} {f : Nat → Int32} : ∀ {n i : Nat}, i < n → zfill b f n (b + i) = 0
  | n + 1, i, h => by
    rw [zfill]
    by_cases e : i = n
    · subst e; exact pk_us
    · rw [pk_un (by omega)]; exact zfill_in (by omega)
theorem zfill_out {b : Nat} {f : Nat → Int32} : ∀ {n j : Nat}, ¬ (b ≤ j ∧ j < b + n) → zfill b f n j = f j
  | 0, j, h => rfl
  | n + 1, j, h => by rw [zfill, pk_un (by omega)]; exact zfill_out (by omega)
theorem cpf_in {g : Nat → Int32} {b : Nat} {f : Nat → Int32} : ∀ {n i : Nat}, i < n → cpf g b f n i = g (b + i)
  | n + 1, i, h => by
    rw [cpf]
    by_cases e : i = n
    · subst e; exact pk_us
    · rw [pk_un e]; exact cpf_in (by omega)
theorem cpt_in {h : Nat → Int32} {b : Nat} {f : Nat → Int32} : ∀ {n i : Nat}, i < n → cpt h b f n (b + i) = h i
  | n + 1, i, hi => by
    rw [cpt]
    by_cases e : i = n
    · subst e; exact pk_us
    · rw [pk_un (by omega)]; exact cpt_in (by omega)
theorem cpt_out {h : Nat → Int32} {b : Nat} {f : Nat → Int32} : ∀ {n j : Nat}, ¬ (b ≤ j ∧ j < b + n) → cpt h b f n j = f j
  | 0, j, _ => rfl
  | n + 1, j, hj => by rw [cpt, pk_un (by omega)]; exact cpt_out (by omega)
theorem rB_set {a a' : (Nat → Int32) × (Nat → Int32) × (Nat → Nat → Int32)} {b b' : (Nat → Int32) × (Nat → Int32) × (Nat → Int32)} (h : rB a b) (js : Nat) (ho : ∀ k, k ≠ js → a'.1 k = a.1 k ∧ a'.2.1 k = a.2.1 k ∧ a'.2.2 k = a.2.2 k ∧ b'.1 k = b.1 k ∧ b'.2.1 k = b.2.1 k) (hc : ∀ j, ¬ (48 * js ≤ j ∧ j < 48 * js + 48) → b'.2.2 j = b.2.2 j) (hk : rBk js (a'.1 js) (a'.2.1 js) (a'.2.2 js) (b'.1 js) (b'.2.1 js) b'.2.2) : rB a' b' := by
  intro k hk4
  by_cases e : k = js
  · subst e; exact hk
  · obtain ⟨e1, e2, e3, e4, e5⟩ := ho k e
    rw [e1, e2, e3, e4, e5]
    rcases h k hk4 with h1 | ⟨h1, h2, h3, h4, h5⟩
    · exact Or.inl h1
    · exact Or.inr ⟨h1, h2, h3, h4, fun i hi => by rw [h5 i hi]; exact (hc _ (by omega)).symm⟩
theorem hold1 {ix le : Int32} (hl : 0 ≤ le.toInt ∧ le.toInt ≤ 48) : (0 ≤ ix ∧ (0 : Int32) ≤ 1 ∧ ix.toInt64 + (1 : Int32).toInt64 ≤ le.toInt64) ↔ (0 ≤ ix.toInt64 ∧ ix.toInt64 ≤ le.toInt64 - 1) := by
  have e1 : (1 : Int32).toInt64 = 1 := by decide
  have l1 := Int32.toInt_lt ix
  have l2 := Int32.le_toInt ix
  have z0 : (0 : Int32).toInt = 0 := by decide
  have z1 : (0 : Int64).toInt = 0 := by decide
  have z2 : (1 : Int64).toInt = 1 := by decide
  rw [e1, Int64.le_iff_toInt_le, Int64.le_iff_toInt_le, Int64.le_iff_toInt_le, Int32.le_iff_toInt_le, Int64.toInt_add, Int64.toInt_sub, Int32.toInt_toInt64, Int32.toInt_toInt64, z0, z1, z2, Int.bmod_eq_of_le (by omega) (by omega), Int.bmod_eq_of_le (by omega) (by omega)]
  constructor
  · rintro ⟨h1, _, h2⟩; exact ⟨h1, by omega⟩
  · rintro ⟨h1, h2⟩; exact ⟨h1, by decide, by omega⟩
theorem relB_at {zc : CS} {zr : RS2} (h : relB zc zr) {k : Nat} (hk : k < 4) : rBk k (cs_I zc 8 k) (cs_I zc 9 k) (cs_S zc k) (rs_I zr 7 k) (rs_I zr 8 k) (rs_I zr 9) := h k hk
theorem rB_neg {k : Nat} {ln le sz la : Int32} {f g : Nat → Int32} (h : rBk k ln le f sz la g) : (ln = -1 ↔ sz < 0) ∧ (ln = -1 ↔ ¬ 0 ≤ sz) := by
  rcases h with ⟨rfl, rfl⟩ | ⟨⟨h1, h2⟩, h3, rfl, ⟨h4, h5⟩, _⟩
  · exact ⟨by decide, by decide⟩
  · have e1 : ¬ ln = -1 := fun q => by rw [q] at h1; exact absurd h1 (by decide)
    have e2 : (0 : Int32) ≤ le := (fa_le _ _).mpr h4
    exact ⟨⟨fun q => absurd q e1, fun q => absurd q (Int32.not_lt.mpr e2)⟩, ⟨fun q => absurd q e1, fun q => absurd e2 q⟩⟩
theorem rB_yes {k : Nat} {ln le sz la : Int32} {f g : Nat → Int32} (h : rBk k ln le f sz la g) (hn : ¬ ln = -1) : (0 ≤ ln ∧ ln ≤ 2) ∧ ln = la ∧ le = sz ∧ (0 ≤ le.toInt ∧ le.toInt ≤ 48) ∧ ∀ i : Nat, (i : Int) < le.toInt → f i = g (48 * k + i) := by
  rcases h with ⟨rfl, rfl⟩ | h
  · exact absurd rfl hn
  · exact h
theorem nI4 {i j : Nat} (hi : i < 4) (hj : j < 4) (h : nI i = nI j) : i = j := (nI_eq (by omega) (by omega)).mp h
theorem stB_sheet {zc u : CS} {zr v : RS2} {k ln n r r' : Int32} (h : relB zc zr) (hc : pC_sheet zc k ln n r u) (hr : pR_sheet zr k ln n r' v) : relB u v ∧ r = r' := by
  rcases hc with ⟨a1, rfl, rfl⟩ | ⟨js, rfl, a1, a2, rfl, rfl⟩ | ⟨js, rfl, a1, a2, a3, a4, rfl, rfl⟩ | ⟨js, rfl, a1, a2, a3, a4, rfl, rfl⟩ | ⟨js, rfl, a1, a2, a3, rfl, rfl⟩ <;> rcases hr with ⟨b1, rfl, rfl⟩ | ⟨js', e, b1, b2, rfl, rfl⟩ | ⟨js', e, b1, b2, b3, b4, nn, en, hnn, rfl, rfl⟩ | ⟨js', e, b1, b2, b3, b4, rfl, rfl⟩ | ⟨js', e, b1, b2, b3, rfl, rfl⟩
  all_goals first | exact ⟨h, rfl⟩ | exact absurd rfl (b1 js a1) | exact absurd e (a1 js' b1) | exact absurd a2 b2 | exact absurd b2 a2 | exact absurd a3 b3 | exact absurd b3 a3 | exact absurd a4 b4 | exact absurd b4 a4 | skip
  obtain rfl := nI4 a1 b1 e
  subst en
  refine ⟨rB_set h js (fun k hk => ?_) (fun j hj => ?_) ?_, rfl⟩
  · exact ⟨va_up_ne _ _ hk, va_up_ne _ _ hk, va_up_ne _ _ hk, pk_un hk, pk_un hk⟩
  · exact zfill_out (by omega)
  · have e1 : (fB (va_up (cs_i zc) 2 0, cs_n zc, va_up (va_up (cs_I zc) 8 (va_up (cs_I zc 8) js ln)) 9 (va_up (cs_I zc 9) js (nI nn)), cs_L zc, cs_N zc, va_up (cs_S zc) js (fun _ => 0), cs_X zc)) = (va_up (cs_I zc 8) js ln, va_up (cs_I zc 9) js (nI nn), va_up (cs_S zc) js (fun _ => 0)) := rfl
    have e2 : gB (va_up (rs_i zr) 0 0, rs_n zr, va_up (va_up (va_up (rs_I zr) 7 (upd (rs_I zr 7) js (nI nn))) 8 (upd (rs_I zr 8) js ln)) 9 (zfill (48 * js) (rs_I zr 9) nn), rs_L zr) = (upd (rs_I zr 7) js (nI nn), upd (rs_I zr 8) js ln, zfill (48 * js) (rs_I zr 9) nn) := rfl
    rw [e1, e2]
    show rBk js (va_up (cs_I zc 8) js ln js) (va_up (cs_I zc 9) js (nI nn) js) (va_up (cs_S zc) js (fun _ => 0) js) (upd (rs_I zr 7) js (nI nn) js) (upd (rs_I zr 8) js ln js) (zfill (48 * js) (rs_I zr 9) nn)
    rw [va_up_self, va_up_self, va_up_self, pk_us, pk_us]
    have en : (nI nn).toInt = (nn : Int) := nI_toInt (by omega)
    exact Or.inr ⟨a2, rfl, rfl, by omega, fun i hi => (zfill_in (by omega)).symm⟩
theorem stB_lose {zc u : CS} {zr v : RS2} {k r r' : Int32} (h : relB zc zr) (hc : pC_lose zc k r u) (hr : pR_lose zr k r' v) : relB u v ∧ r = r' := by
  rcases hr with ⟨b1, rfl, rfl⟩ | ⟨js, rfl, b1, b2, rfl, rfl⟩ | ⟨js, rfl, b1, b2, rfl, rfl⟩
  · rcases hc with ⟨a1, rfl, rfl⟩ | ⟨j, rfl, a1, a2, rfl, rfl⟩ | ⟨j, rfl, a1, a2, rfl, rfl⟩
    · exact ⟨h, rfl⟩
    · exact absurd rfl (b1 j a1)
    · exact absurd rfl (b1 j a1)
  · have hs := relB_at h b1
    rcases hc with ⟨a1, rfl, rfl⟩ | ⟨j, e, a1, a2, rfl, rfl⟩ | ⟨j, e, a1, a2, rfl, rfl⟩
    · exact absurd rfl (a1 js b1)
    · obtain rfl := nI4 b1 a1 e
      refine ⟨rB_set h js (fun k hk => ⟨va_up_ne _ _ hk, va_up_ne _ _ hk, va_up_ne _ _ hk, pk_un hk, rfl⟩) (fun j hj => rfl) ?_, rfl⟩
      exact Or.inl ⟨va_up_self _ _ _, pk_us⟩
    · obtain rfl := nI4 b1 a1 e
      exact absurd b2 ((rB_neg hs).2.mp a2)
  · have hs := relB_at h b1
    rcases hc with ⟨a1, rfl, rfl⟩ | ⟨j, e, a1, a2, rfl, rfl⟩ | ⟨j, e, a1, a2, rfl, rfl⟩
    · exact absurd rfl (a1 js b1)
    · obtain rfl := nI4 b1 a1 e
      exact absurd ((rB_neg hs).2.mpr b2) a2
    · obtain rfl := nI4 b1 a1 e
      refine ⟨rB_set h js (fun k hk => ⟨rfl, rfl, rfl, pk_un hk, rfl⟩) (fun j hj => rfl) ?_, rfl⟩
      exact Or.inl ⟨a2, pk_us⟩
theorem ncell_no {sz i : Int32} (h : sz < 0) : ncell sz i = 1 := if_pos h
theorem ncell_in {sz i : Int32} (h : ¬ sz < 0) (h1 : 0 ≤ i.toInt64 ∧ i.toInt64 ≤ sz.toInt64 - 1) : ncell sz i = 0 := by rw [ncell, if_neg h, if_pos h1]
theorem ncell_out {sz i : Int32} (h : ¬ sz < 0) (h1 : ¬ (0 ≤ i.toInt64 ∧ i.toInt64 ≤ sz.toInt64 - 1)) : ncell sz i = 3 := by rw [ncell, if_neg h, if_neg h1]
theorem stB_put {zc u : CS} {zr v : RS2} {k ix w r r' : Int32} (h : relB zc zr) (hc : pC_put zc k ix w r u) (hr : pR_put zr k ix w r' v) : relB u v ∧ r = r' := by
  rcases hc with ⟨a1, rfl, rfl⟩ | ⟨js, rfl, a1, a2, a3, rfl, rfl⟩ | ⟨js, rfl, a1, a2, a3, rfl, rfl⟩ | ⟨js, rfl, a1, a2, rfl, rfl⟩
  · rcases hr with ⟨b1, rfl, rfl⟩ | ⟨j, e, b1, _⟩ | ⟨j, e, b1, _⟩ | ⟨j, e, b1, _⟩ | ⟨j, e, b1, _⟩
    · exact ⟨h, rfl⟩
    all_goals exact absurd e (a1 j b1)
  · have hs := relB_at h a1
    obtain ⟨y1, y2, y3, y4, y5⟩ := rB_yes hs a2
    have hnn : ¬ rs_I zr 7 js < 0 := fun q => a2 ((rB_neg hs).1.mpr q)
    have hi := (hold1 y4).mp a3
    have hnc : ncell (rs_I zr 7 js) ix = 0 := ncell_in hnn (y3 ▸ hi)
    have key : ∀ (ia : Nat) (x : Int32), ix = nI ia → ia < 48 → x = cutv (cs_I zc 8 js) w → relB (va_up (cs_i zc) 2 0, cs_n zc, cs_I zc, cs_L zc, cs_N zc, va_up (cs_S zc) js (upd (cs_S zc js) (ix).toNatClampNeg (cutv (cs_I zc 8 js) w)), cs_X zc) (va_up (rs_i zr) 0 0, rs_n zr, va_up (rs_I zr) 9 (upd (rs_I zr 9) (48 * js + ia) x), rs_L zr) := by
      intro ia x e1 hia e2
      subst e1; subst e2
      rw [nI_clamp (by omega)]
      refine rB_set h js (fun k hk => ⟨rfl, rfl, va_up_ne _ _ hk, rfl, rfl⟩) (fun j hj => pk_un (by omega)) ?_
      show rBk js (cs_I zc 8 js) (cs_I zc 9 js) (va_up (cs_S zc) js (upd (cs_S zc js) ia (cutv (cs_I zc 8 js) w)) js) (rs_I zr 7 js) (rs_I zr 8 js) (upd (rs_I zr 9) (48 * js + ia) (cutv (cs_I zc 8 js) w))
      rw [va_up_self]
      refine Or.inr ⟨y1, y2, y3, y4, fun i hi => ?_⟩
      by_cases e : i = ia
      · subst e; rw [pk_us, pk_us]
      · rw [pk_un e, pk_un (by omega)]; exact y5 i hi
    rcases hr with ⟨b1, rfl, rfl⟩ | ⟨j, e, b1, b2, ia, e1, hia, c1, c2, rfl, rfl⟩ | ⟨j, e, b1, b2, ia, e1, hia, c1, c2, rfl, rfl⟩ | ⟨j, e, b1, b2, ia, e1, hia, c1, rfl, rfl⟩ | ⟨j, e, b1, b2, rfl, rfl⟩
    · exact absurd rfl (b1 js a1)
    · obtain rfl := nI4 a1 b1 e
      rw [← y2] at c1 c2
      exact ⟨key ia w e1 hia (by rw [cutv, if_neg c1, if_neg c2]), rfl⟩
    · obtain rfl := nI4 a1 b1 e
      rw [← y2] at c1 c2
      exact ⟨key ia _ e1 hia (by rw [cutv, if_neg c1, if_pos c2]), rfl⟩
    · obtain rfl := nI4 a1 b1 e
      rw [← y2] at c1
      exact ⟨key ia _ e1 hia (by rw [cutv, if_pos c1]), rfl⟩
    · obtain rfl := nI4 a1 b1 e
      rw [hnc] at b2; exact absurd (by decide) b2
  · have hs := relB_at h a1
    obtain ⟨y1, y2, y3, y4, y5⟩ := rB_yes hs a2
    have hnn : ¬ rs_I zr 7 js < 0 := fun q => a2 ((rB_neg hs).1.mpr q)
    have hnc : ncell (rs_I zr 7 js) ix = 3 := ncell_out hnn (fun q => a3 ((hold1 y4).mpr (y3 ▸ q)))
    rcases hr with ⟨b1, rfl, rfl⟩ | ⟨j, e, b1, b2, _⟩ | ⟨j, e, b1, b2, _⟩ | ⟨j, e, b1, b2, _⟩ | ⟨j, e, b1, b2, rfl, rfl⟩
    · exact absurd rfl (b1 js a1)
    all_goals
      obtain rfl := nI4 a1 b1 e
      rw [hnc] at b2
    · exact absurd b2 (by decide)
    · exact absurd b2 (by decide)
    · exact absurd b2 (by decide)
    · exact ⟨h, by rw [hnc]⟩
  · have hs := relB_at h a1
    have hnc : ncell (rs_I zr 7 js) ix = 1 := ncell_no ((rB_neg hs).1.mp a2)
    rcases hr with ⟨b1, rfl, rfl⟩ | ⟨j, e, b1, b2, _⟩ | ⟨j, e, b1, b2, _⟩ | ⟨j, e, b1, b2, _⟩ | ⟨j, e, b1, b2, rfl, rfl⟩
    · exact absurd rfl (b1 js a1)
    all_goals
      obtain rfl := nI4 a1 b1 e
      rw [hnc] at b2
    · exact absurd b2 (by decide)
    · exact absurd b2 (by decide)
    · exact absurd b2 (by decide)
    · exact ⟨h, by rw [hnc]⟩
theorem stB_cell' {zc u : CS} {zr v : RS2} {k ix ln : Int32} {r r' : Int64} (h : relB zc zr) (hc : pC_cell zc k ix ln r u) (hr : pR_cell zr k ix ln r' v) : r = r' := by
  rcases hc with ⟨a1, rfl, rfl⟩ | ⟨js, rfl, a1, a2, a3, rfl, rfl⟩ | ⟨js, rfl, a1, a2, a3, a4, a5, rfl, rfl⟩ | ⟨js, rfl, a1, a2, a3, a4, a5, rfl, rfl⟩ | ⟨js, rfl, a1, a2, a3, a4, rfl, rfl⟩ | ⟨js, rfl, a1, a2, rfl, rfl⟩
  · rcases hr with ⟨b1, rfl, rfl⟩ | ⟨j, e, b1, _⟩ | ⟨j, e, b1, _⟩ | ⟨j, e, b1, _⟩ | ⟨j, e, b1, _⟩ | ⟨j, e, b1, _⟩ | ⟨j, e, b1, _⟩
    · rfl
    all_goals exact absurd e (a1 j b1)
  all_goals
    have hs := relB_at h a1
    rcases hr with ⟨b1, rfl, rfl⟩ | ⟨j, e, b1, b2, b3, b4, ia, e1, hia, rfl, rfl⟩ | ⟨j, e, b1, b2, b3, b4, rfl, rfl⟩ | ⟨j, e, b1, b2, b3, b4, b5, ia, e1, hia, rfl, rfl⟩ | ⟨j, e, b1, b2, b3, b4, b5, rfl, rfl⟩ | ⟨j, e, b1, b2, b3, b4, rfl, rfl⟩ | ⟨j, e, b1, b2, rfl, rfl⟩
    · exact absurd rfl (b1 js a1)
    all_goals obtain rfl := nI4 a1 b1 e
    all_goals first | rfl | exact absurd b2 a2 | exact absurd a2 b2 | exact absurd ((rB_neg hs).1.mp a3) b3 | exact absurd ((rB_neg hs).1.mpr b3) a3 | skip
  all_goals first
    | (rw [ncell_no b3] at b4; exact absurd b4 (by decide))
    | (obtain ⟨y1, y2, y3, y4, y5⟩ := rB_yes hs a3
       first
       | exact absurd (y2.symm.trans a4) (fun q => b4 (q ▸ rfl))
       | exact absurd (y2 ▸ a4) b4
       | exact absurd (y2 ▸ b4) a4
       | (rw [ncell_in b3 (y3 ▸ (hold1 y4).mp a5)] at b5; exact absurd (by decide) b5)
       | (rw [ncell_out b3 (fun q => a5 ((hold1 y4).mpr (y3 ▸ q)))] at b5; exact absurd b5 (by decide))
       | (subst e1
          rw [nI_clamp (by omega)]
          rw [y5 ia (by
            have q := (hold1 y4).mp a5
            have q2 := Int64.le_iff_toInt_le.mp q.2
            have z2 : (1 : Int64).toInt = 1 := by decide
            rw [Int64.toInt_sub, Int32.toInt_toInt64, Int32.toInt_toInt64, nI_toInt (by omega), z2, Int.bmod_eq_of_le (by omega) (by omega)] at q2
            omega)]))
theorem hold_of {a b : Nat} {le : Int32} (h : ((a + b : Nat) : Int) ≤ le.toInt) (h2 : a + b ≤ 48) : 0 ≤ nI a ∧ 0 ≤ nI b ∧ (nI a).toInt64 + (nI b).toInt64 ≤ le.toInt64 := by
  refine ⟨nI_pos' (by omega), nI_pos' (by omega), ?_⟩
  rw [Int64.le_iff_toInt_le, Int64.toInt_add, Int32.toInt_toInt64, Int32.toInt_toInt64, Int32.toInt_toInt64, nI_toInt (by omega), nI_toInt (by omega), Int.bmod_eq_of_le (by omega) (by omega)]
  omega
theorem stB_copy {zc u : CS} {zr v : RS2} {k ix ot jx n r r' : Int32} (h : relB zc zr) (hc : pC_copy zc k ix ot jx n r u) (hr : pR_copy zr k ix ot jx n r' v) : relB u v ∧ r = r' := by
  rcases hc with ⟨a1, a2, rfl, rfl⟩ | ⟨a1, jo, rfl, a2, rfl, rfl⟩ | ⟨js, rfl, a1, a2, rfl, rfl⟩ | hc
  · rcases hr with ⟨b1, rfl, rfl⟩ | ⟨j, e, b1, b2, rfl, rfl⟩ | ⟨j, e, b1, _⟩ | ⟨j, e, b1, _⟩ | ⟨j, e, b1, _⟩ | ⟨j, e, b1, _⟩ | ⟨j, e, b1, _⟩ | ⟨j, e, b1, _⟩
    · exact ⟨h, rfl⟩
    · exact ⟨h, rfl⟩
    all_goals exact absurd e (a1 j b1)
  · rcases hr with ⟨b1, rfl, rfl⟩ | ⟨j, e, b1, b2, rfl, rfl⟩ | ⟨j, e, b1, _⟩ | ⟨j, e, b1, _⟩ | ⟨j, e, b1, _⟩ | ⟨j, e, b1, _⟩ | ⟨j, e, b1, _⟩ | ⟨j, e, b1, _⟩
    · exact ⟨h, rfl⟩
    · exact ⟨h, rfl⟩
    all_goals exact absurd e (a1 j b1)
  · rcases hr with ⟨b1, rfl, rfl⟩ | ⟨j, e, b1, b2, rfl, rfl⟩ | ⟨j, e, b1, jo, e2, b2, _⟩ | ⟨j, e, b1, jo, e2, b2, _⟩ | ⟨j, e, b1, jo, e2, b2, _⟩ | ⟨j, e, b1, jo, e2, b2, _⟩ | ⟨j, e, b1, jo, e2, b2, _⟩ | ⟨j, e, b1, jo, e2, b2, _⟩
    · exact ⟨h, rfl⟩
    · exact ⟨h, rfl⟩
    all_goals exact absurd e2 (a2 jo b2)
  -- both sheets are: js, jo, the class's cases with js = jo and apart as one
  have both : ∃ js jo : Nat, k = nI js ∧ js < 4 ∧ ot = nI jo ∧ jo < 4 ∧ ((cs_I zc 8 js = -1 ∧ r = -10 - 1 ∧ fB u = fB zc) ∨ (¬ cs_I zc 8 js = -1 ∧ cs_I zc 8 jo = -1 ∧ r = -10 - 1 ∧ fB u = fB zc) ∨ (¬ cs_I zc 8 js = -1 ∧ ¬ cs_I zc 8 jo = -1 ∧ ¬ cs_I zc 8 js = cs_I zc 8 jo ∧ r = -10 - 2 ∧ fB u = fB zc) ∨ (¬ cs_I zc 8 js = -1 ∧ ¬ cs_I zc 8 jo = -1 ∧ cs_I zc 8 js = cs_I zc 8 jo ∧ (¬ (0 ≤ ix ∧ 0 ≤ n ∧ ix.toInt64 + n.toInt64 ≤ (cs_I zc 9 js).toInt64) ∨ ¬ (0 ≤ jx ∧ 0 ≤ n ∧ jx.toInt64 + n.toInt64 ≤ (cs_I zc 9 jo).toInt64)) ∧ r = -10 - 3 ∧ fB u = fB zc) ∨ (¬ cs_I zc 8 js = -1 ∧ ¬ cs_I zc 8 jo = -1 ∧ cs_I zc 8 js = cs_I zc 8 jo ∧ ∃ ia ja nn : Nat, ix = nI ia ∧ jx = nI ja ∧ n = nI nn ∧ ia + nn ≤ 48 ∧ ja + nn ≤ 48 ∧ ((ia + nn : Nat) : Int) ≤ (cs_I zc 9 js).toInt ∧ ((ja + nn : Nat) : Int) ≤ (cs_I zc 9 jo).toInt ∧ r = nI nn ∧ fB u = (cs_I zc 8, cs_I zc 9, va_up (cs_S zc) jo (va_cpy (cs_S zc js) (cs_S zc jo) ia ja nn)))) := by
    rcases hc with ⟨js, e1, a1, e2, c1, rfl, rfl⟩ | ⟨js, e1, a1, e2, c1, c2, c3, c4, rfl, rfl⟩ | ⟨js, e1, a1, e2, c1, c2, c3, ia, ja, nn, d1, d2, d3, d4, d5, d6, d7, rfl, rfl⟩ | ⟨js, e1, a1, e2, c1, c2, c3, c4, c5, rfl, rfl⟩ | ⟨js, e1, a1, e2, c1, c2, c3, rfl, rfl⟩ | ⟨js, e1, a1, e2, c1, c2, rfl, rfl⟩ | ⟨js, e1, a1, jo, e2, a2, _, c1, rfl, rfl⟩ | ⟨js, e1, a1, jo, e2, a2, _, c1, c2, c3, c4, rfl, rfl⟩ | ⟨js, e1, a1, jo, e2, a2, _, c1, c2, c3, ia, ja, nn, d1, d2, d3, d4, d5, d6, d7, rfl, rfl⟩ | ⟨js, e1, a1, jo, e2, a2, _, c1, c2, c3, c4, c5, rfl, rfl⟩ | ⟨js, e1, a1, jo, e2, a2, _, c1, c2, c3, rfl, rfl⟩ | ⟨js, e1, a1, jo, e2, a2, _, c1, c2, rfl, rfl⟩
    · exact ⟨js, js, e1, a1, e2, a1, Or.inl ⟨c1, rfl, rfl⟩⟩
    · exact ⟨js, js, e1, a1, e2, a1, Or.inr (Or.inr (Or.inr (Or.inl ⟨c1, c2, rfl, Or.inl c4, rfl, rfl⟩)))⟩
    · exact ⟨js, js, e1, a1, e2, a1, Or.inr (Or.inr (Or.inr (Or.inr ⟨c1, c2, rfl, ia, ja, nn, d1, d2, d3, d4, d5, d6, d7, rfl, rfl⟩)))⟩
    · exact ⟨js, js, e1, a1, e2, a1, Or.inr (Or.inr (Or.inr (Or.inl ⟨c1, c2, rfl, Or.inr c5, rfl, rfl⟩)))⟩
    · exact absurd rfl c3
    · exact absurd c2 c1
    · exact ⟨js, jo, e1, a1, e2, a2, Or.inl ⟨c1, rfl, rfl⟩⟩
    · exact ⟨js, jo, e1, a1, e2, a2, Or.inr (Or.inr (Or.inr (Or.inl ⟨c1, c2, c3, Or.inl c4, rfl, rfl⟩)))⟩
    · exact ⟨js, jo, e1, a1, e2, a2, Or.inr (Or.inr (Or.inr (Or.inr ⟨c1, c2, c3, ia, ja, nn, d1, d2, d3, d4, d5, d6, d7, rfl, rfl⟩)))⟩
    · exact ⟨js, jo, e1, a1, e2, a2, Or.inr (Or.inr (Or.inr (Or.inl ⟨c1, c2, c3, Or.inr c5, rfl, rfl⟩)))⟩
    · exact ⟨js, jo, e1, a1, e2, a2, Or.inr (Or.inr (Or.inl ⟨c1, c2, c3, rfl, rfl⟩))⟩
    · exact ⟨js, jo, e1, a1, e2, a2, Or.inr (Or.inl ⟨c1, c2, rfl, rfl⟩)⟩
  clear hc
  obtain ⟨js, jo, rfl, a1, rfl, a2, hc⟩ := both
  have hs := relB_at h a1
  have ho := relB_at h a2
  have same : ∀ {w : RS2}, fB u = fB zc → gB w = gB zr → relB u w := fun e1 e2 => relB_of e1 e2 h
  rcases hr with ⟨b1, rfl, rfl⟩ | ⟨j, e, b1, b2, rfl, rfl⟩ | ⟨j, e, b1, j2, e2, b2, d1, rfl, rfl⟩ | ⟨j, e, b1, j2, e2, b2, d1, d2, d3, d4, rfl, rfl⟩ | ⟨j, e, b1, j2, e2, b2, d1, d2, d3, ia', ja', nn', f1, f2, f3, f4, f5, f6, f7, rfl, rfl⟩ | ⟨j, e, b1, j2, e2, b2, d1, d2, d3, d4, d5, rfl, rfl⟩ | ⟨j, e, b1, j2, e2, b2, d1, d2, d3, rfl, rfl⟩ | ⟨j, e, b1, j2, e2, b2, d1, d2, rfl, rfl⟩
  · exact absurd rfl (b1 js a1)
  · exact absurd rfl (b2 jo a2)
  all_goals
    obtain rfl := nI4 a1 b1 e
    obtain rfl := nI4 a2 b2 e2
  · rcases hc with ⟨c1, rfl, c2⟩ | ⟨c1, _⟩ | ⟨c1, _⟩ | ⟨c1, _⟩ | ⟨c1, _⟩
    · exact ⟨same c2 rfl, rfl⟩
    all_goals exact absurd ((rB_neg hs).1.mpr d1) c1
  all_goals
    have n1 : ¬ cs_I zc 8 js = -1 := fun q => d1 ((rB_neg hs).1.mp q)
    obtain ⟨x1, x2, x3, x4, x5⟩ := rB_yes hs n1
  · have n2 : ¬ cs_I zc 8 jo = -1 := fun q => ((rB_neg ho).2.mp q) d2
    obtain ⟨y1, y2, y3, y4, y5⟩ := rB_yes ho n2
    rw [← x2, ← y2] at d3
    rw [← x3] at d4
    rcases hc with ⟨c1, _⟩ | ⟨_, c1, _⟩ | ⟨_, _, c1, _⟩ | ⟨_, _, _, _, rfl, c2⟩ | ⟨_, _, _, ia, ja, nn, g1, g2, g3, g4, g5, g6, g7, _⟩
    · exact absurd c1 n1
    · exact absurd c1 n2
    · exact absurd d3 c1
    · exact ⟨same c2 rfl, rfl⟩
    · subst g1; subst g3
      exact absurd (hold_of g6 g4) d4
  · have n2 : ¬ cs_I zc 8 jo = -1 := fun q => ((rB_neg ho).2.mp q) d2
    obtain ⟨y1, y2, y3, y4, y5⟩ := rB_yes ho n2
    rw [← x2, ← y2] at d3
    rw [← x3] at f6
    rw [← y3] at f7
    subst f1; subst f2; subst f3
    rcases hc with ⟨c1, _⟩ | ⟨_, c1, _⟩ | ⟨_, _, c1, _⟩ | ⟨_, _, _, c1, rfl, c2⟩ | ⟨_, _, _, ia, ja, nn, g1, g2, g3, g4, g5, g6, g7, rfl, c2⟩
    · exact absurd c1 n1
    · exact absurd c1 n2
    · exact absurd d3 c1
    · rcases c1 with c1 | c1
      · exact absurd (hold_of f6 f4) c1
      · exact absurd (hold_of f7 f5) c1
    · obtain rfl := (nI_eq (by omega) (by omega)).mp g1
      obtain rfl := (nI_eq (by omega) (by omega)).mp g2
      obtain rfl := (nI_eq (by omega) (by omega)).mp g3
      refine ⟨?_, rfl⟩
      unfold relB
      rw [c2]
      refine rB_set h jo (fun k hk => ⟨rfl, rfl, va_up_ne _ _ hk, rfl, rfl⟩) (fun j hj => cpt_out (by omega)) ?_
      show rBk jo (cs_I zc 8 jo) (cs_I zc 9 jo) (va_up (cs_S zc) jo (va_cpy (cs_S zc js) (cs_S zc jo) ia' ja' nn') jo) (rs_I zr 7 jo) (rs_I zr 8 jo) (cpt (cpf (rs_I zr 9) (48 * js + ia') (rs_I zr 10) nn') (48 * jo + ja') (rs_I zr 9) nn')
      rw [va_up_self]
      refine Or.inr ⟨y1, y2, y3, y4, fun i hi => ?_⟩
      by_cases hin : ja' ≤ i ∧ i < ja' + nn'
      · rw [pk_cpy_in hin.1 hin.2, x5 _ (by omega)]
        have e9 : 48 * jo + i = (48 * jo + ja') + (i - ja') := by omega
        rw [e9, cpt_in (by omega), cpf_in (by omega)]
        congr 1
        omega
      · rw [pk_cpy_out (by omega), cpt_out (by omega)]
        exact y5 i hi
  · have n2 : ¬ cs_I zc 8 jo = -1 := fun q => ((rB_neg ho).2.mp q) d2
    obtain ⟨y1, y2, y3, y4, y5⟩ := rB_yes ho n2
    rw [← x2, ← y2] at d3
    rw [← y3] at d5
    rcases hc with ⟨c1, _⟩ | ⟨_, c1, _⟩ | ⟨_, _, c1, _⟩ | ⟨_, _, _, _, rfl, c2⟩ | ⟨_, _, _, ia, ja, nn, g1, g2, g3, g4, g5, g6, g7, _⟩
    · exact absurd c1 n1
    · exact absurd c1 n2
    · exact absurd d3 c1
    · exact ⟨same c2 rfl, rfl⟩
    · subst g2; subst g3
      exact absurd (hold_of g7 g5) d5
  · have n2 : ¬ cs_I zc 8 jo = -1 := fun q => ((rB_neg ho).2.mp q) d2
    obtain ⟨y1, y2, y3, y4, y5⟩ := rB_yes ho n2
    rw [← x2, ← y2] at d3
    rcases hc with ⟨c1, _⟩ | ⟨_, c1, _⟩ | ⟨_, _, c1, rfl, c2⟩ | ⟨_, _, c1, _⟩ | ⟨_, _, c1, _⟩
    · exact absurd c1 n1
    · exact absurd c1 n2
    · exact ⟨same c2 rfl, rfl⟩
    · exact absurd c1 d3
    · exact absurd c1 d3
  · have n2 : cs_I zc 8 jo = -1 := (rB_neg ho).2.mpr d2
    rcases hc with ⟨c1, _⟩ | ⟨_, c1, rfl, c2⟩ | ⟨_, c1, _⟩ | ⟨_, c1, _⟩ | ⟨_, c1, _⟩
    · exact absurd c1 n1
    · exact ⟨same c2 rfl, rfl⟩
    all_goals exact absurd n2 c1
/-! narrowing over whole numbers: two sweeps close an array -/
def u1 (a : Nat → Int) (k : Nat) (x : Int) : Nat → Int := fun j => if j = k then x else a j
theorem u1_s {a : Nat → Int} {k : Nat} {x : Int} : u1 a k x k = x := if_pos rfl
theorem u1_n {a : Nat → Int} {k j : Nat} {x : Int} (h : j ≠ k) : u1 a k x j = a j := if_neg h
def mS (d : Int) (i : Nat) (a : Nat → Int) : Int := max (max (a i) (if 0 < i % 8 then a (i - 1) - d else a i)) (if 8 ≤ i then a (i - 8) - d else a i)
def mD (d : Int) (i : Nat) (a : Nat → Int) : Int := max (max (a i) (if i % 8 < 7 then a (i + 1) - d else a i)) (if i < 40 then a (i + 8) - d else a i)
def wS (d : Int) (g : Nat → Int) : Nat → Nat → Int
  | 0 => g
  | i + 1 => u1 (wS d g i) i (mS d i (wS d g i))
def wD (d : Int) (g : Nat → Int) : Nat → Nat → Int
  | 0 => g
  | k + 1 => u1 (wD d g k) (47 - k) (mD d (47 - k) (wD d g k))
theorem wS_out {d : Int} {g : Nat → Int} : ∀ {n j : Nat}, n ≤ j → wS d g n j = g j
  | 0, j, _ => rfl
  | n + 1, j, h => by rw [wS, u1_n (by omega)]; exact wS_out (by omega)
theorem wS_in {d : Int} {g : Nat → Int} : ∀ {n j : Nat}, j < n → wS d g n j = wS d g (j + 1) j
  | n + 1, j, h => by
    by_cases e : j = n
    · subst e; rfl
    · rw [wS, u1_n e]; exact wS_in (by omega)
theorem wS_at {d : Int} {g : Nat → Int} {i : Nat} : wS d g (i + 1) i = max (max (g i) (if 0 < i % 8 then wS d g i (i - 1) - d else g i)) (if 8 ≤ i then wS d g i (i - 8) - d else g i) := by
  rw [wS, u1_s, mS, wS_out (Nat.le_refl i)]
theorem wS_low {d : Int} {g : Nat → Int} {i : Nat} (hi : i < 48) : g i ≤ wS d g 48 i ∧ (0 < i % 8 → wS d g 48 (i - 1) - d ≤ wS d g 48 i) ∧ (8 ≤ i → wS d g 48 (i - 8) - d ≤ wS d g 48 i) := by
  rw [wS_in hi, wS_at]
  refine ⟨by omega, fun h => ?_, fun h => ?_⟩
  · rw [if_pos h, wS_in (n := 48) (j := i - 1) (by omega), ← wS_in (n := i) (j := i - 1) (by omega)]; omega
  · rw [if_pos h, wS_in (n := 48) (j := i - 8) (by omega), ← wS_in (n := i) (j := i - 8) (by omega)]; omega
theorem wD_out {d : Int} {g : Nat → Int} : ∀ {k j : Nat}, k ≤ 48 → j + k < 48 → wD d g k j = g j
  | 0, j, _, _ => rfl
  | k + 1, j, h1, h => by rw [wD, u1_n (by omega)]; exact wD_out (by omega) (by omega)
theorem wD_in {d : Int} {g : Nat → Int} : ∀ {k j : Nat}, k ≤ 48 → j < 48 → 48 ≤ j + k → wD d g k j = wD d g (48 - j) j
  | 0, j, _, h2, h3 => absurd h3 (by omega)
  | k + 1, j, h1, h2, h3 => by
    by_cases e : j + k = 47
    · have e2 : 48 - j = k + 1 := by omega
      rw [e2]
    · rw [wD, u1_n (by omega)]; exact wD_in (by omega) h2 (by omega)
theorem wD_at {d : Int} {g : Nat → Int} {i : Nat} (hi : i < 48) : wD d g (48 - i) i = max (max (g i) (if i % 8 < 7 then wD d g (47 - i) (i + 1) - d else g i)) (if i < 40 then wD d g (47 - i) (i + 8) - d else g i) := by
  have e1 : 48 - i = (47 - i) + 1 := by omega
  have e2 : 47 - (47 - i) = i := by omega
  rw [e1, wD, e2, u1_s, mD, wD_out (by omega) (by omega)]
theorem wD_48 {d : Int} {g : Nat → Int} {i : Nat} (hi : i < 48) : wD d g 48 i = max (max (g i) (if i % 8 < 7 then wD d g 48 (i + 1) - d else g i)) (if i < 40 then wD d g 48 (i + 8) - d else g i) := by
  rw [wD_in (by omega) hi (by omega), wD_at hi]
  have a1 : i % 8 < 7 → wD d g (47 - i) (i + 1) = wD d g 48 (i + 1) := fun h => by
    rw [wD_in (k := 48) (j := i + 1) (by omega) (by omega) (by omega), wD_in (k := 47 - i) (j := i + 1) (by omega) (by omega) (by omega)]
  have a2 : i < 40 → wD d g (47 - i) (i + 8) = wD d g 48 (i + 8) := fun h => by
    rw [wD_in (k := 48) (j := i + 8) (by omega) (by omega) (by omega), wD_in (k := 47 - i) (j := i + 8) (by omega) (by omega) (by omega)]
  by_cases h1 : i % 8 < 7 <;> by_cases h2 : i < 40
  · rw [if_pos h1, if_pos h2, if_pos h1, if_pos h2, a1 h1, a2 h2]
  · rw [if_pos h1, if_neg h2, if_pos h1, if_neg h2, a1 h1]
  · rw [if_neg h1, if_pos h2, if_neg h1, if_pos h2, a2 h2]
  · rw [if_neg h1, if_neg h2, if_neg h1, if_neg h2]
/-- closed under the four neighbours, by rows from below and columns from the right -/
theorem w_closed {d : Int} {g : Nat → Int} (hd : 0 ≤ d) : ∀ s n, s < 48 → n < 48 → nbr s n → wD d (wS d g 48) 48 n - d ≤ wD d (wS d g 48) 48 s := by
  have lo : ∀ i, i < 48 → wS d g 48 i ≤ wD d (wS d g 48) 48 i := fun i hi => by rw [wD_48 hi]; omega
  have rt : ∀ i, i < 48 → i % 8 < 7 → wD d (wS d g 48) 48 (i + 1) - d ≤ wD d (wS d g 48) 48 i := fun i hi h => by rw [wD_48 hi, if_pos h]; omega
  have dw : ∀ i, i < 40 → wD d (wS d g 48) 48 (i + 8) - d ≤ wD d (wS d g 48) 48 i := fun i hi => by rw [wD_48 (show i < 48 by omega), if_pos hi]; omega
  have up : ∀ i, i < 48 → wD d (wS d g 48) 48 i = wS d g 48 i ∨ (i % 8 < 7 ∧ wD d (wS d g 48) 48 i = wD d (wS d g 48) 48 (i + 1) - d) ∨ (i < 40 ∧ wD d (wS d g 48) 48 i = wD d (wS d g 48) 48 (i + 8) - d) := fun i hi => by
    have e := wD_48 (d := d) (g := wS d g 48) hi
    by_cases h1 : i % 8 < 7 <;> by_cases h2 : i < 40
    · rw [if_pos h1, if_pos h2] at e; omega
    · rw [if_pos h1, if_neg h2] at e; omega
    · rw [if_neg h1, if_pos h2] at e; omega
    · rw [if_neg h1, if_neg h2] at e; omega
  generalize hA : wD d (wS d g 48) 48 = A at *
  generalize hB : wS d g 48 = B at *
  have bl : ∀ i, i < 48 → 0 < i % 8 → B (i - 1) - d ≤ B i := fun i hi h => by rw [← hB]; exact (wS_low hi).2.1 h
  have bu : ∀ i, i < 48 → 8 ≤ i → B (i - 8) - d ≤ B i := fun i hi h => by rw [← hB]; exact (wS_low hi).2.2 h
  -- to the left: rows from below
  have left : ∀ r i, i < 48 → 40 ≤ i + 8 * r → 0 < i % 8 → A (i - 1) - d ≤ A i := by
    intro r
    induction r with
    | zero =>
      intro i hi hr h
      have e : i - 1 + 1 = i := by omega
      rcases up (i - 1) (by omega) with q | ⟨_, q⟩ | ⟨q0, q⟩
      · have := lo i hi; have := bl i hi h; omega
      · rw [e] at q; omega
      · omega
    | succ r ih =>
      intro i hi hr h
      have e : i - 1 + 1 = i := by omega
      rcases up (i - 1) (by omega) with q | ⟨_, q⟩ | ⟨q0, q⟩
      · have := lo i hi; have := bl i hi h; omega
      · rw [e] at q; omega
      · by_cases h40 : i < 40
        · have h1 := ih (i + 8) (by omega) (by omega) (by omega)
          have e2 : i + 8 - 1 = i - 1 + 8 := by omega
          rw [e2] at h1
          have h2 := dw i h40
          omega
        · omega
  -- up: columns from the right
  have upw : ∀ c i, i < 48 → 7 ≤ i % 8 + c → 8 ≤ i → A (i - 8) - d ≤ A i := by
    intro c
    induction c with
    | zero =>
      intro i hi hc h
      have e : i - 8 + 8 = i := by omega
      rcases up (i - 8) (by omega) with q | ⟨q0, q⟩ | ⟨q0, q⟩
      · have := lo i hi; have := bu i hi h; omega
      · omega
      · rw [e] at q; omega
    | succ c ih =>
      intro i hi hc h
      have e : i - 8 + 8 = i := by omega
      rcases up (i - 8) (by omega) with q | ⟨q0, q⟩ | ⟨q0, q⟩
      · have := lo i hi; have := bu i hi h; omega
      · by_cases h7 : i % 8 < 7
        · have h1 := ih (i + 1) (by omega) (by omega) (by omega)
          have e2 : i + 1 - 8 = i - 8 + 1 := by omega
          rw [e2] at h1
          have h2 := rt i hi h7
          omega
        · omega
      · rw [e] at q; omega
  intro s n hs hn h
  rcases h with ⟨h1, h2⟩ | ⟨h1, h2⟩ | h2 | h2
  · have := left 6 s hs (by omega) (by omega)
    rw [show s - 1 = n by omega] at this; exact this
  · subst h2; exact rt s hs (by omega)
  · have := upw 7 s hs (by omega) (by omega)
    rw [show s - 8 = n by omega] at this; exact this
  · subst h2; exact dw s (by omega)
/-- below every closed array above the start -/
theorem wS_min {d : Int} {g c : Nat → Int} (hc : ∀ s n, s < 48 → n < 48 → nbr s n → c n - d ≤ c s) (hg : ∀ j, j < 48 → g j ≤ c j) : ∀ n, n ≤ 48 → ∀ j, j < 48 → wS d g n j ≤ c j := by
  intro n
  induction n with
  | zero => intro _; exact hg
  | succ n ih =>
    intro hn j hj
    have h := ih (by omega)
    rw [wS]
    by_cases e : j = n
    · subst e
      rw [u1_s, mS]
      have h0 := h j hj
      by_cases h1 : 0 < j % 8 <;> by_cases h2 : 8 ≤ j
      · rw [if_pos h1, if_pos h2]
        have a1 := h (j - 1) (by omega); have a2 := h (j - 8) (by omega)
        have b1 := hc j (j - 1) hj (by omega) (Or.inl ⟨by omega, by omega⟩)
        have b2 := hc j (j - 8) hj (by omega) (Or.inr (Or.inr (Or.inl (by omega))))
        omega
      · rw [if_pos h1, if_neg h2]
        have a1 := h (j - 1) (by omega)
        have b1 := hc j (j - 1) hj (by omega) (Or.inl ⟨by omega, by omega⟩)
        omega
      · rw [if_neg h1, if_pos h2]
        have a2 := h (j - 8) (by omega)
        have b2 := hc j (j - 8) hj (by omega) (Or.inr (Or.inr (Or.inl (by omega))))
        omega
      · rw [if_neg h1, if_neg h2]; omega
    · rw [u1_n e]; exact h j hj
theorem wD_min {d : Int} {g c : Nat → Int} (hc : ∀ s n, s < 48 → n < 48 → nbr s n → c n - d ≤ c s) (hg : ∀ j, j < 48 → g j ≤ c j) : ∀ n, n ≤ 48 → ∀ j, j < 48 → wD d g n j ≤ c j := by
  intro n
  induction n with
  | zero => intro _; exact hg
  | succ n ih =>
    intro hn j hj
    have h := ih (by omega)
    rw [wD]
    by_cases e : j = 47 - n
    · subst e
      rw [u1_s, mD]
      generalize hq : 47 - n = q at *
      have h0 := h q hj
      by_cases h1 : q % 8 < 7 <;> by_cases h2 : q < 40
      · rw [if_pos h1, if_pos h2]
        have a1 := h (q + 1) (by omega); have a2 := h (q + 8) (by omega)
        have b1 := hc q (q + 1) hj (by omega) (Or.inr (Or.inl ⟨by omega, rfl⟩))
        have b2 := hc q (q + 8) hj (by omega) (Or.inr (Or.inr (Or.inr rfl)))
        omega
      · rw [if_pos h1, if_neg h2]
        have a1 := h (q + 1) (by omega)
        have b1 := hc q (q + 1) hj (by omega) (Or.inr (Or.inl ⟨by omega, rfl⟩))
        omega
      · rw [if_neg h1, if_pos h2]
        have a2 := h (q + 8) (by omega)
        have b2 := hc q (q + 8) hj (by omega) (Or.inr (Or.inr (Or.inr rfl)))
        omega
      · rw [if_neg h1, if_neg h2]; omega
    · rw [u1_n e]; exact h j hj
/-! the class's sweeps are the sweeps over whole numbers -/
theorem tcL_I {s j : Nat} {v : Int32} {a : Nat → Int32} : (tcL s v a j).toInt = if j = s then max (a s).toInt v.toInt else (a j).toInt := by
  by_cases h : j = s
  · subst h
    rw [tcL_at, if_pos rfl]
    by_cases q : a j < v
    · rw [if_pos q]; have := (fa_lt _ _).mp q; omega
    · rw [if_neg q]; have h9 : ¬ (a j).toInt < v.toInt := fun z => q ((fa_lt _ _).mpr z); omega
  · rw [tcL_ne h, if_neg h]
theorem tcH_I {s j : Nat} {v : Int32} {a : Nat → Int32} : (tcH s v a j).toInt = if j = s then min (a s).toInt v.toInt else (a j).toInt := by
  by_cases h : j = s
  · subst h
    rw [tcH_at, if_pos rfl]
    by_cases q : v < a j
    · rw [if_pos q]; have := (fa_lt _ _).mp q; omega
    · rw [if_neg q]; have h9 : ¬ v.toInt < (a j).toInt := fun z => q ((fa_lt _ _).mpr z); omega
  · rw [tcH_ne h, if_neg h]
/-- one step with at most two neighbours -/
theorem two_L {d : Int32} {i x y : Nat} {P Q : Prop} [Decidable P] [Decidable Q] {a : Nat → Int32} {A : Nat → Int} (hd : 0 ≤ d.toInt ∧ d.toInt ≤ 1000) (hi : i < 48) (hx : P → x < 48 ∧ x ≠ i) (hy : Q → y < 48 ∧ y ≠ i) (hr : rngL a) (hA : ∀ j, j < 48 → (a j).toInt = A j) :
    rngL (if Q then tcL i ((if P then tcL i (a x - d) a else a) y - d) (if P then tcL i (a x - d) a else a) else (if P then tcL i (a x - d) a else a)) ∧ ∀ j, j < 48 → ((if Q then tcL i ((if P then tcL i (a x - d) a else a) y - d) (if P then tcL i (a x - d) a else a) else (if P then tcL i (a x - d) a else a)) j).toInt = u1 A i (max (max (A i) (if P then A x - d.toInt else A i)) (if Q then A y - d.toInt else A i)) j := by
  have key : ∀ j, j < 48 → ((if Q then tcL i ((if P then tcL i (a x - d) a else a) y - d) (if P then tcL i (a x - d) a else a) else (if P then tcL i (a x - d) a else a)) j).toInt = u1 A i (max (max (A i) (if P then A x - d.toInt else A i)) (if Q then A y - d.toInt else A i)) j := by
    intro j hj
    have ai := hA i hi
    by_cases hP : P <;> by_cases hQ : Q
    · have ax := hA x (hx hP).1; have ay := hA y (hy hQ).1
      have ex := sub_small (hr x (hx hP).1) hd
      have ey := sub_small (hr y (hy hQ).1) hd
      rw [if_pos hP, if_pos hQ, if_pos hP, if_pos hQ]
      by_cases e : j = i
      · subst e; rw [u1_s, tcL_I, if_pos rfl, tcL_ne (hy hQ).2, tcL_I, if_pos rfl, ex, ey, ai, ax, ay]
      · rw [u1_n e, tcL_I, if_neg e, tcL_I, if_neg e]; exact hA j hj
    · have ax := hA x (hx hP).1
      have ex := sub_small (hr x (hx hP).1) hd
      rw [if_pos hP, if_neg hQ, if_pos hP, if_neg hQ]
      by_cases e : j = i
      · subst e; rw [u1_s, tcL_I, if_pos rfl, ex, ai, ax]; omega
      · rw [u1_n e, tcL_I, if_neg e]; exact hA j hj
    · have ay := hA y (hy hQ).1
      have ey := sub_small (hr y (hy hQ).1) hd
      rw [if_neg hP, if_pos hQ, if_neg hP, if_pos hQ]
      by_cases e : j = i
      · subst e; rw [u1_s, tcL_I, if_pos rfl, ey, ai, ay]; omega
      · rw [u1_n e, tcL_I, if_neg e]; exact hA j hj
    · rw [if_neg hP, if_neg hQ, if_neg hP, if_neg hQ]
      by_cases e : j = i
      · subst e; rw [u1_s, ai]; omega
      · rw [u1_n e]; exact hA j hj
  refine ⟨fun j hj => ?_, key⟩
  rw [key j hj]
  have ai := hA i hi; have ri := hr i hi
  by_cases e : j = i
  · subst e
    rw [u1_s]
    by_cases hP : P <;> by_cases hQ : Q
    · rw [if_pos hP, if_pos hQ]
      have ax := hA x (hx hP).1; have ay := hA y (hy hQ).1; have rx := hr x (hx hP).1; have ry := hr y (hy hQ).1; omega
    · rw [if_pos hP, if_neg hQ]
      have ax := hA x (hx hP).1; have rx := hr x (hx hP).1; omega
    · rw [if_neg hP, if_pos hQ]
      have ay := hA y (hy hQ).1; have ry := hr y (hy hQ).1; omega
    · rw [if_neg hP, if_neg hQ]; omega
  · rw [u1_n e, ← hA j hj]; exact hr j hj
theorem two_H {d : Int32} {i x y : Nat} {P Q : Prop} [Decidable P] [Decidable Q] {a : Nat → Int32} {A : Nat → Int} (hd : 0 ≤ d.toInt ∧ d.toInt ≤ 1000) (hi : i < 48) (hx : P → x < 48 ∧ x ≠ i) (hy : Q → y < 48 ∧ y ≠ i) (hr : rngL a) (hA : ∀ j, j < 48 → (a j).toInt = - A j) :
    rngL (if Q then tcH i ((if P then tcH i (a x + d) a else a) y + d) (if P then tcH i (a x + d) a else a) else (if P then tcH i (a x + d) a else a)) ∧ ∀ j, j < 48 → ((if Q then tcH i ((if P then tcH i (a x + d) a else a) y + d) (if P then tcH i (a x + d) a else a) else (if P then tcH i (a x + d) a else a)) j).toInt = - u1 A i (max (max (A i) (if P then A x - d.toInt else A i)) (if Q then A y - d.toInt else A i)) j := by
  have key : ∀ j, j < 48 → ((if Q then tcH i ((if P then tcH i (a x + d) a else a) y + d) (if P then tcH i (a x + d) a else a) else (if P then tcH i (a x + d) a else a)) j).toInt = - u1 A i (max (max (A i) (if P then A x - d.toInt else A i)) (if Q then A y - d.toInt else A i)) j := by
    intro j hj
    have ai := hA i hi
    by_cases hP : P <;> by_cases hQ : Q
    · have ax := hA x (hx hP).1; have ay := hA y (hy hQ).1
      have ex := add_small (hr x (hx hP).1) hd
      have ey := add_small (hr y (hy hQ).1) hd
      rw [if_pos hP, if_pos hQ, if_pos hP, if_pos hQ]
      by_cases e : j = i
      · subst e; rw [u1_s, tcH_I, if_pos rfl, tcH_ne (hy hQ).2, tcH_I, if_pos rfl, ex, ey, ai, ax, ay]; omega
      · rw [u1_n e, tcH_I, if_neg e, tcH_I, if_neg e]; exact hA j hj
    · have ax := hA x (hx hP).1
      have ex := add_small (hr x (hx hP).1) hd
      rw [if_pos hP, if_neg hQ, if_pos hP, if_neg hQ]
      by_cases e : j = i
      · subst e; rw [u1_s, tcH_I, if_pos rfl, ex, ai, ax]; omega
      · rw [u1_n e, tcH_I, if_neg e]; exact hA j hj
    · have ay := hA y (hy hQ).1
      have ey := add_small (hr y (hy hQ).1) hd
      rw [if_neg hP, if_pos hQ, if_neg hP, if_pos hQ]
      by_cases e : j = i
      · subst e; rw [u1_s, tcH_I, if_pos rfl, ey, ai, ay]; omega
      · rw [u1_n e, tcH_I, if_neg e]; exact hA j hj
    · rw [if_neg hP, if_neg hQ, if_neg hP, if_neg hQ]
      by_cases e : j = i
      · subst e; rw [u1_s, ai]; omega
      · rw [u1_n e]; exact hA j hj
  refine ⟨fun j hj => ?_, key⟩
  rw [key j hj]
  have ai := hA i hi; have ri := hr i hi
  by_cases e : j = i
  · subst e
    rw [u1_s]
    by_cases hP : P <;> by_cases hQ : Q
    · rw [if_pos hP, if_pos hQ]
      have ax := hA x (hx hP).1; have ay := hA y (hy hQ).1; have rx := hr x (hx hP).1; have ry := hr y (hy hQ).1; omega
    · rw [if_pos hP, if_neg hQ]
      have ax := hA x (hx hP).1; have rx := hr x (hx hP).1; omega
    · rw [if_neg hP, if_pos hQ]
      have ay := hA y (hy hQ).1; have ry := hr y (hy hQ).1; omega
    · rw [if_neg hP, if_neg hQ]; omega
  · rw [u1_n e, ← hA j hj]; exact hr j hj
theorem swL_I {d : Int32} {g : Nat → Int32} {G : Nat → Int} (hd : 0 ≤ d.toInt ∧ d.toInt ≤ 1000) (hr : rngL g) (hG : ∀ j, j < 48 → (g j).toInt = G j) : ∀ n, n ≤ 48 → rngL (swL d g n) ∧ ∀ j, j < 48 → (swL d g n j).toInt = wS d.toInt G n j
  | 0, _ => ⟨hr, hG⟩
  | n + 1, hn => by
    obtain ⟨h1, h2⟩ := swL_I hd hr hG n (by omega)
    exact two_L (P := 0 < n % 8) (Q := 8 ≤ n) (x := n - 1) (y := n - 8) hd (by omega) (fun _ => by omega) (fun _ => by omega) h1 h2
theorem swH_I {d : Int32} {g : Nat → Int32} {G : Nat → Int} (hd : 0 ≤ d.toInt ∧ d.toInt ≤ 1000) (hr : rngL g) (hG : ∀ j, j < 48 → (g j).toInt = - G j) : ∀ n, n ≤ 48 → rngL (swH d g n) ∧ ∀ j, j < 48 → (swH d g n j).toInt = - wS d.toInt G n j
  | 0, _ => ⟨hr, hG⟩
  | n + 1, hn => by
    obtain ⟨h1, h2⟩ := swH_I hd hr hG n (by omega)
    exact two_H (P := 0 < n % 8) (Q := 8 ≤ n) (x := n - 1) (y := n - 8) hd (by omega) (fun _ => by omega) (fun _ => by omega) h1 h2
theorem dnL_I {d : Int32} {g : Nat → Int32} {G : Nat → Int} (hd : 0 ≤ d.toInt ∧ d.toInt ≤ 1000) (hr : rngL g) (hG : ∀ j, j < 48 → (g j).toInt = G j) : ∀ n, n ≤ 48 → rngL (dnL d g n) ∧ ∀ j, j < 48 → (dnL d g n j).toInt = wD d.toInt G n j
  | 0, _ => ⟨hr, hG⟩
  | n + 1, hn => by
    obtain ⟨h1, h2⟩ := dnL_I hd hr hG n (by omega)
    exact two_L (P := (47 - n) % 8 < 7) (Q := 47 - n < 40) (x := 47 - n + 1) (y := 47 - n + 8) hd (by omega) (fun _ => by omega) (fun _ => by omega) h1 h2
theorem dnH_I {d : Int32} {g : Nat → Int32} {G : Nat → Int} (hd : 0 ≤ d.toInt ∧ d.toInt ≤ 1000) (hr : rngL g) (hG : ∀ j, j < 48 → (g j).toInt = - G j) : ∀ n, n ≤ 48 → rngL (dnH d g n) ∧ ∀ j, j < 48 → (dnH d g n j).toInt = - wD d.toInt G n j
  | 0, _ => ⟨hr, hG⟩
  | n + 1, hn => by
    obtain ⟨h1, h2⟩ := dnH_I hd hr hG n (by omega)
    exact two_H (P := (47 - n) % 8 < 7) (Q := 47 - n < 40) (x := 47 - n + 1) (y := 47 - n + 8) hd (by omega) (fun _ => by omega) (fun _ => by omega) h1 h2
def clo (d : Int32) (a b : Nat → Int32) : Prop := ∀ s n, s < 48 → n < 48 → nbr s n → (a n).toInt - d.toInt ≤ (a s).toInt ∧ (b s).toInt ≤ (b n).toInt + d.toInt
/-- the class's two sweeps: in range, least above the start, closed -/
theorem nar_C {d : Int32} {g h : Nat → Int32} (hd : 0 ≤ d.toInt ∧ d.toInt ≤ 1000) (hg : rngL g) (hh : rngL h) : (rngL (dnL d (swL d g 48) 48) ∧ rngL (dnH d (swH d h 48) 48)) ∧ minL d g (dnL d (swL d g 48) 48) ∧ maxH d h (dnH d (swH d h 48) 48) ∧ clo d (dnL d (swL d g 48) 48) (dnH d (swH d h 48) 48) := by
  obtain ⟨s1, s2⟩ := swL_I (G := fun j => (g j).toInt) hd hg (fun _ _ => rfl) 48 (Nat.le_refl _)
  obtain ⟨t1, t2⟩ := dnL_I hd s1 s2 48 (Nat.le_refl _)
  obtain ⟨x1, x2⟩ := swH_I (G := fun j => - (h j).toInt) hd hh (fun _ _ => by omega) 48 (Nat.le_refl _)
  obtain ⟨y1, y2⟩ := dnH_I hd x1 x2 48 (Nat.le_refl _)
  have lo : ∀ (G : Nat → Int) (j : Nat), j < 48 → G j ≤ wD d.toInt (wS d.toInt G 48) 48 j := fun G j hj => by
    have h1 := (wS_low (d := d.toInt) (g := G) hj).1
    have h2 : wS d.toInt G 48 j ≤ wD d.toInt (wS d.toInt G 48) 48 j := by rw [wD_48 hj]; omega
    omega
  refine ⟨⟨t1, y1⟩, ⟨fun j hj => ?_, fun c hc hgc j hj => ?_⟩, ⟨fun j hj => ?_, fun c hc hgc j hj => ?_⟩, fun s n hs hn hb => ?_⟩
  · rw [t2 j hj]; exact lo (fun j => (g j).toInt) j hj
  · rw [t2 j hj]; exact wD_min hc (wS_min hc hgc 48 (Nat.le_refl _)) 48 (Nat.le_refl _) j hj
  · rw [y2 j hj]; have := lo (fun j => - (h j).toInt) j hj; omega
  · rw [y2 j hj]
    have hc' : ∀ s n, s < 48 → n < 48 → nbr s n → (fun j => - c j) n - d.toInt ≤ (fun j => - c j) s := fun s n hs hn hb => by
      have := hc s n hs hn hb
      show - c n - d.toInt ≤ - c s
      omega
    have := wD_min hc' (wS_min (g := fun j => - (h j).toInt) hc' (fun j hj => by have := hgc j hj; show - (h j).toInt ≤ - c j; omega) 48 (Nat.le_refl _)) 48 (Nat.le_refl _) j hj
    have this : wD d.toInt (wS d.toInt (fun j => - (h j).toInt) 48) 48 j ≤ - c j := this
    omega
  · rw [t2 s hs, t2 n hn, y2 s hs, y2 n hn]
    have h1 := w_closed (g := fun j => (g j).toInt) hd.1 s n hs hn hb
    have h2 := w_closed (g := fun j => - (h j).toInt) hd.1 s n hs hn hb
    omega
/-- least closed arrays are one -/
theorem min_one {d : Int32} {g g' a b h h' x y : Nat → Int32} (e : ∀ j, j < 48 → g j = g' j) (e' : ∀ j, j < 48 → h j = h' j) (ha : minL d g a) (hb : minL d g' b) (hx : maxH d h x) (hy : maxH d h' y) (ca : clo d a x) (cb : clo d b y) : (∀ j, j < 48 → a j = b j) ∧ ∀ j, j < 48 → x j = y j := by
  refine ⟨fun j hj => (fa_eq _ _).mpr (Int.le_antisymm ?_ ?_), fun j hj => (fa_eq _ _).mpr (Int.le_antisymm ?_ ?_)⟩
  · exact ha.2 (fun j => (b j).toInt) (fun s n hs hn hb => (cb s n hs hn hb).1) (fun j hj => by rw [e j hj]; exact hb.1 j hj) j hj
  · exact hb.2 (fun j => (a j).toInt) (fun s n hs hn hb => (ca s n hs hn hb).1) (fun j hj => by rw [← e j hj]; exact ha.1 j hj) j hj
  · exact hy.2 (fun j => (x j).toInt) (fun s n hs hn hb => (ca s n hs hn hb).2) (fun j hj => by rw [← e' j hj]; exact hx.1 j hj) j hj
  · exact hx.2 (fun j => (y j).toInt) (fun s n hs hn hb => (cb s n hs hn hb).2) (fun j hj => by rw [e' j hj]; exact hy.1 j hj) j hj
/-- a crossing of arrays below the least is one of the least -/
theorem min_cross {d : Int32} {g g' a b h h' x y : Nat → Int32} (e : ∀ j, j < 48 → g j = g' j) (e' : ∀ j, j < 48 → h j = h' j) (ha : minL d g a) (hb : minL d g' b) (hx : maxH d h x) (hy : maxH d h' y) (ca : clo d a x) (hc : ∃ j, j < 48 ∧ y j < b j) : ∃ j, j < 48 ∧ x j < a j := by
  obtain ⟨j, hj, hjc⟩ := hc
  refine ⟨j, hj, (fa_lt _ _).mpr ?_⟩
  have h1 := hb.2 (fun j => (a j).toInt) (fun s n hs hn hb => (ca s n hs hn hb).1) (fun j hj => by rw [← e j hj]; exact ha.1 j hj) j hj
  have h2 := hy.2 (fun j => (x j).toInt) (fun s n hs hn hb => (ca s n hs hn hb).2) (fun j hj => by rw [← e' j hj]; exact hx.1 j hj) j hj
  have h3 := (fa_lt _ _).mp hjc
  have h1 : (b j).toInt ≤ (a j).toInt := h1
  have h2 : (x j).toInt ≤ (y j).toInt := h2
  omega
/-! layer C: the lode -/
def fC (z : CS) : Int32 × (Nat → Int32) × (Nat → Int32) := (cs_i z 0, cs_I z 0, cs_I z 1)
def gC (z : RS2) : Int32 × (Nat → Int32) × (Nat → Int32) := (rs_i z 1, rs_I z 2, rs_I z 3)
def rC (a b : Int32 × (Nat → Int32) × (Nat → Int32)) : Prop := a.1 = b.1 ∧ (0 ≤ a.1.toInt ∧ a.1.toInt ≤ 1000) ∧ (∀ j, j < 48 → a.2.1 j = b.2.1 j) ∧ (∀ j, j < 48 → a.2.2 j = b.2.2 j) ∧ rngL a.2.1 ∧ rngL a.2.2 ∧ clo a.1 a.2.1 a.2.2 ∧ ∀ j, j < 48 → ¬ a.2.2 j < a.2.1 j
def relC (zc : CS) (zr : RS2) : Prop := rC (fC zc) (gC zr)
theorem relC_of {zc u : CS} {zr v : RS2} (h1 : fC u = fC zc) (h2 : gC v = gC zr) (h : relC zc zr) : relC u v := by
  unfold relC; rw [h1, h2]; exact h
theorem relC_0 {x : Nat → Nat → Nat} : relC (z0C x) z0R := by
  refine ⟨rfl, (by decide : 0 ≤ (1000 : Int32).toInt ∧ (1000 : Int32).toInt ≤ 1000), fun j _ => rfl, fun j _ => rfl, fun j _ => (by decide : 0 ≤ (0 : Int32).toInt ∧ (0 : Int32).toInt ≤ 1000), fun j _ => (by decide : 0 ≤ (1000 : Int32).toInt ∧ (1000 : Int32).toInt ≤ 1000), fun s n _ _ _ => ?_, fun j _ => (by decide : ¬ (1000 : Int32) < 0)⟩
  exact (by decide : (0 : Int32).toInt - (1000 : Int32).toInt ≤ (0 : Int32).toInt ∧ (1000 : Int32).toInt ≤ (1000 : Int32).toInt + (1000 : Int32).toInt)
theorem nar_both {d d' fa fa' : Int32} {gl gh gl' gh' fl fh fl' fh' tl th al ah fl1 fh1 fl1' fh1' : Nat → Int32} {la1 fa1 r r' : Int32} (hd : 0 ≤ d.toInt ∧ d.toInt ≤ 1000) (ed : d = d') (hgl : rngL gl) (hgh : rngL gh) (e1 : ∀ j, j < 48 → gl j = gl' j) (e2 : ∀ j, j < 48 → gh j = gh' j) (old : rC (fa, fl, fh) (fa', fl', fh'))
    (hC : (tl = dnL d (swL d gl 48) 48 ∧ th = dnH d (swH d gh 48) 48) ∧ ((r = -3 ∧ (∃ j, j < 48 ∧ th j < tl j) ∧ fl1 = fl ∧ fh1 = fh ∧ la1 = fa) ∨ (r = nI (fa_cnt (chg fl fh tl th) 48) ∧ (∀ j, j < 48 → ¬ th j < tl j) ∧ fl1 = tl ∧ fh1 = th ∧ la1 = d)))
    (hR : ((minL d' gl' al ∧ maxH d' gh' ah) ∧ (rngL al ∧ rngL ah)) ∧ ((r' = -3 ∧ (∃ j, j < 48 ∧ ah j < al j) ∧ fl1' = fl' ∧ fh1' = fh' ∧ fa1 = fa') ∨ (r' = nI (fa_cnt (chg fl' fh' al ah) 48) ∧ (∀ j, j < 48 → ¬ ah j < al j) ∧ (∀ s n, s < 48 → n < 48 → nbr s n → (al n).toInt - d'.toInt ≤ (al s).toInt ∧ (ah s).toInt ≤ (ah n).toInt + d'.toInt) ∧ fl1' = al ∧ fh1' = ah ∧ fa1 = d'))) : r = r' ∧ rC (la1, fl1, fh1) (fa1, fl1', fh1') := by
  subst ed
  obtain ⟨⟨rfl, rfl⟩, hC⟩ := hC
  obtain ⟨⟨⟨m1, m2⟩, r1, r2⟩, hR⟩ := hR
  obtain ⟨⟨n1, n2⟩, n3, n4, n5⟩ := nar_C hd hgl hgh
  rcases hR with ⟨rfl, hx, rfl, rfl, rfl⟩ | ⟨rfl, hx, hcl, rfl, rfl, rfl⟩
  · have hcr := min_cross e1 e2 n3 m1 n4 m2 n5 hx
    rcases hC with ⟨rfl, _, rfl, rfl, rfl⟩ | ⟨_, hn, _⟩
    · exact ⟨rfl, old⟩
    · obtain ⟨j, hj, hc⟩ := hcr
      exact absurd hc (hn j hj)
  · obtain ⟨o1, o2⟩ := min_one e1 e2 n3 m1 n4 m2 n5 hcl
    rcases hC with ⟨_, ⟨j, hj, hc⟩, _⟩ | ⟨rfl, hn, rfl, rfl, rfl⟩
    · rw [o1 j hj, o2 j hj] at hc
      exact absurd hc (hx j hj)
    · refine ⟨?_, rfl, hd, o1, o2, n1, n2, n5, hn⟩
      refine congrArg nI (fa_cnt_cong fun j hj => ?_)
      have f1 : fl j = fl' j := old.2.2.1 j hj
      have f2 : fh j = fh' j := old.2.2.2.1 j hj
      simp only [chg, o1 j hj, o2 j hj, f1, f2]
/-- the class narrows what is closed: nothing changes -/
theorem nar_same {fa : Int32} {fl fh tl th fl1 fh1 : Nat → Int32} {la1 r : Int32} {b : Int32 × (Nat → Int32) × (Nat → Int32)} (old : rC (fa, fl, fh) b)
    (hC : (tl = dnL fa (swL fa fl 48) 48 ∧ th = dnH fa (swH fa fh 48) 48) ∧ ((r = -3 ∧ (∃ j, j < 48 ∧ th j < tl j) ∧ fl1 = fl ∧ fh1 = fh ∧ la1 = fa) ∨ (r = nI (fa_cnt (chg fl fh tl th) 48) ∧ (∀ j, j < 48 → ¬ th j < tl j) ∧ fl1 = tl ∧ fh1 = th ∧ la1 = fa))) : rC (la1, fl1, fh1) b := by
  obtain ⟨a1, a2, a3, a4, a5, a6, a7, a8⟩ := id old
  obtain ⟨⟨rfl, rfl⟩, hC⟩ := hC
  obtain ⟨⟨n1, n2⟩, n3, n4, n5⟩ := nar_C a2 a5 a6
  obtain ⟨o1, o2⟩ := min_one (fun _ _ => rfl) (fun _ _ => rfl) n3 minL_rf n4 maxH_rf n5 a7
  rcases hC with ⟨_, _, rfl, rfl, rfl⟩ | ⟨_, hn, rfl, rfl, rfl⟩
  · exact old
  · exact ⟨a1, a2, fun j hj => (o1 j hj).trans (a3 j hj), fun j hj => (o2 j hj).trans (a4 j hj), n1, n2, n5, hn⟩
theorem relC_i {zc : CS} {zr : RS2} (h : relC zc zr) : rC (cs_i zc 0, cs_I zc 0, cs_I zc 1) (rs_i zr 1, rs_I zr 2, rs_I zr 3) := h
theorem tcL_cg {s j : Nat} {v : Int32} {a b : Nat → Int32} (hs : s < 48) (h : ∀ j, j < 48 → a j = b j) (hj : j < 48) : tcL s v a j = tcL s v b j := by
  by_cases e : j = s
  · subst e; rw [tcL_at, tcL_at, h j hs]
  · rw [tcL_ne e, tcL_ne e, h j hj]
theorem tcH_cg {s j : Nat} {v : Int32} {a b : Nat → Int32} (hs : s < 48) (h : ∀ j, j < 48 → a j = b j) (hj : j < 48) : tcH s v a j = tcH s v b j := by
  by_cases e : j = s
  · subst e; rw [tcH_at, tcH_at, h j hs]
  · rw [tcH_ne e, tcH_ne e, h j hj]
theorem stC_rise {zc u : CS} {zr v : RS2} {dd r r' : Int32} (h : relC zc zr) (hc : pC_rise zc dd r u) (hr : pR_rise zr dd r' v) : relC u v ∧ r = r' := by
  obtain ⟨a1, a2, a3, a4, a5, a6, a7, a8⟩ := relC_i h
  have a1 : cs_i zc 0 = rs_i zr 1 := a1
  rcases hc with ⟨c1, c2, fl1, fh1, la1, tl, th, q, hC, rfl, rfl⟩ | ⟨c1, c2, rfl, rfl⟩ | ⟨c1, rfl, rfl⟩ <;> rcases hr with ⟨d1, d2, fl1', fh1', al, ah, cq, fa1, q', hR, rfl, rfl⟩ | ⟨d1, d2, rfl, rfl⟩ | ⟨d1, rfl, rfl⟩
  · have hz := nar_both (rg_d c1) rfl a5 a6 a3 a4 (relC_i h) hC hR
    exact ⟨hz.2, hz.1⟩
  · exact absurd (a1 ▸ c2) d2
  · exact absurd c1 d1
  · exact absurd (a1 ▸ d2) c2
  · exact ⟨h, rfl⟩
  · exact absurd c1 d1
  · exact absurd d1 c1
  · exact absurd d1 c1
  · exact ⟨h, rfl⟩
theorem stC_find {zc u : CS} {zr v : RS2} {x y lo hi r r' : Int32} (h : relC zc zr) (hc : pC_find zc x y lo hi r u) (hr : pR_find zr x y lo hi r' v) : relC u v ∧ r = r' := by
  obtain ⟨a1, a2, a3, a4, a5, a6, a7, a8⟩ := relC_i h
  have tr : (0 ≤ lo ∧ lo ≤ 1000) → (lo ≤ hi ∧ hi ≤ 1000) → (0 ≤ hi ∧ hi ≤ 1000) ∧ lo ≤ hi := fun q1 q2 => ⟨⟨Int32.le_trans q1.1 q2.1, q2.2⟩, q2.1⟩
  rcases hr with ⟨d1, d2, rfl, rfl⟩ | ⟨d1, d2, d3, sq', hsq', esq', al0, ah0, cq0, ⟨rfl, rfl, _⟩, fl1', fh1', al, ah, cq, fa1, q', hR, rfl, rfl⟩ | ⟨d1, d2, d3, rfl, rfl⟩ | ⟨d1, rfl, rfl⟩
  · rcases hc with ⟨c1, c2, rfl, rfl⟩ | ⟨c1, c2, c3, rfl, rfl⟩ | ⟨c1, c2, c3, c4, _⟩ | ⟨c1, c2, c3, c4, rfl, rfl⟩ | ⟨c1, rfl, rfl⟩
    · exact ⟨h, rfl⟩
    · exact ⟨h, rfl⟩
    · exact absurd c2 d2
    · exact ⟨h, rfl⟩
    · exact absurd d1 c1
  · rcases hc with ⟨c1, c2, rfl, rfl⟩ | ⟨c1, c2, c3, rfl, rfl⟩ | ⟨c1, c2, c3, c4, sq, hsq, esq, fl1, fh1, la1, tl, th, q, hC, rfl, rfl⟩ | ⟨c1, c2, c3, c4, rfl, rfl⟩ | ⟨c1, rfl, rfl⟩
    · exact absurd d2 c2
    · exact absurd (tr d2 d3).1 c3
    · obtain rfl : sq = sq' := (nI_eq (by omega) (by omega)).mp (esq.symm.trans esq')
      have hz := nar_both a2 a1 (rng_tcL a5 c2) (rng_tcH a6 c3) (fun j hj => tcL_cg hsq a3 hj) (fun j hj => tcH_cg hsq a4 hj) (relC_i h) hC hR
      exact ⟨hz.2, hz.1⟩
    · exact absurd (tr d2 d3).2 c4
    · exact absurd d1 c1
  · rcases hc with ⟨c1, c2, rfl, rfl⟩ | ⟨c1, c2, c3, rfl, rfl⟩ | ⟨c1, c2, c3, c4, _⟩ | ⟨c1, c2, c3, c4, rfl, rfl⟩ | ⟨c1, rfl, rfl⟩
    · exact ⟨h, rfl⟩
    · exact ⟨h, rfl⟩
    · exact absurd ⟨c4, c3.2⟩ d3
    · exact ⟨h, rfl⟩
    · exact absurd d1 c1
  · rcases hc with ⟨c1, c2, rfl, rfl⟩ | ⟨c1, c2, c3, rfl, rfl⟩ | ⟨c1, c2, c3, c4, _⟩ | ⟨c1, c2, c3, c4, rfl, rfl⟩ | ⟨c1, rfl, rfl⟩
    · exact absurd c1 d1
    · exact absurd c1 d1
    · exact absurd c1 d1
    · exact absurd c1 d1
    · exact ⟨h, rfl⟩
theorem stC_good' {zc u : CS} {zr v : RS2} {x y wh r r' : Int32} (h : relC zc zr) (hc : pC_good zc x y wh r u) (hr : pR_good zr x y wh r' v) : r = r' := by
  obtain ⟨a1, a2, a3, a4, a5, a6, a7, a8⟩ := relC_i h
  have sqi : ((0 ≤ x ∧ x ≤ 7) ∧ (0 ≤ y ∧ y ≤ 5)) → (8 * y + x).toNatClampNeg < 48 := fun q => by
    obtain ⟨sq, h1, h2⟩ := sqN q
    rw [h2, nI_clamp (by omega)]; exact h1
  have w01 : (0 ≤ wh ∧ wh ≤ 1) ↔ (wh = 0 ∨ wh = 1) := by
    constructor
    · rintro ⟨h1, h2⟩
      obtain ⟨n, hn, rfl⟩ := nI_of2 (x := wh) (M := 1) (n := 1) (by decide) (Int32.not_lt.mpr h1) h2
      rcases (show n = 0 ∨ n = 1 by omega) with rfl | rfl
      · exact Or.inl rfl
      · exact Or.inr rfl
    · rintro (rfl | rfl) <;> decide
  rcases hc with ⟨c1, c2, c3, rfl, rfl⟩ | ⟨c1, c2, c3, rfl, rfl⟩ | ⟨c1, c2, rfl, rfl⟩ | ⟨c1, rfl, rfl⟩ <;> rcases hr with ⟨d1, d2, d3, rfl, rfl⟩ | ⟨d1, d2, d3, rfl, rfl⟩ | ⟨d1, d2, rfl, rfl⟩ | ⟨d1, rfl, rfl⟩
  · exact absurd (w01.mp c2) (fun q => q.elim d2 d3)
  · exact a4 _ (sqi c1)
  · exact absurd d2 c3
  · exact absurd c1 d1
  · exact absurd c3 d2
  · exact absurd c3 d2
  · exact a3 _ (sqi c1)
  · exact absurd c1 d1
  · rfl
  · exact absurd (w01.mpr (Or.inr d3)) c2
  · exact absurd (w01.mpr (Or.inl d2)) c2
  · exact absurd c1 d1
  · exact absurd d1 c1
  · exact absurd d1 c1
  · exact absurd d1 c1
  · rfl
theorem frCC_trace {zc u : CS} {r : Int32} (h : pC_trace zc r u) : fC u = fC zc := by
  rcases h with ⟨_, rfl⟩
  all_goals rfl
theorem frCR_trace {zr u : RS2} {r : Int32} (h : pR_trace zr r u) : gC u = gC zr := by
  rcases h with ⟨_, rfl⟩
  all_goals rfl
theorem frCC_fault {zc u : CS} {r : Int32} (h : pC_fault zc r u) : fC u = fC zc := by
  rcases h with ⟨_, rfl⟩
  all_goals rfl
theorem frCR_fault {zr u : RS2} {r : Int32} (h : pR_fault zr r u) : gC u = gC zr := by
  rcases h with ⟨_, rfl⟩
  all_goals rfl
theorem frCC_told {zc u : CS} {a0 : Int32} {r : Int32} (h : pC_told zc a0 r u) : fC u = fC zc := by
  rcases h with ⟨_, _, _, rfl⟩ | ⟨_, _, _, rfl⟩ | ⟨_, _, _, rfl⟩ | ⟨_, _, _, rfl⟩ | ⟨_, _, _, rfl⟩ | ⟨_, _, _, rfl⟩ | ⟨_, _, _, rfl⟩ | ⟨_, _, _, rfl⟩ | ⟨_, _, _, _, _, _, _, _, _, _, rfl⟩ | ⟨_, _, _, rfl⟩ | ⟨_, _, _, rfl⟩ | ⟨_, _, _, rfl⟩ | ⟨_, _, _, rfl⟩ | ⟨_, _, _, rfl⟩ | ⟨_, _, _, rfl⟩ | ⟨_, _, _, rfl⟩ | ⟨_, _, _, rfl⟩ | ⟨_, _, _, _, _, _, _, _, _, _, rfl⟩
  all_goals rfl
theorem frCR_told {zr u : RS2} {a0 : Int32} {r : Int32} (h : pR_told zr a0 r u) : gC u = gC zr := by
  rcases h with ⟨_, _, rfl⟩ | ⟨_, _, rfl⟩ | ⟨_, _, rfl⟩ | ⟨_, _, rfl⟩ | ⟨_, _, rfl⟩ | ⟨_, _, _, rfl⟩ | ⟨_, _, _, rfl⟩ | ⟨_, _, rfl⟩ | ⟨_, _, _, rfl⟩ | ⟨_, _, _, rfl⟩ | ⟨_, _, _, _, _, _, _, _, _, rfl⟩
  all_goals rfl
theorem frCC_good {zc u : CS} {x : Int32} {y : Int32} {wh : Int32} {r : Int32} (h : pC_good zc x y wh r u) : fC u = fC zc := by
  rcases h with ⟨_, _, _, _, rfl⟩ | ⟨_, _, _, _, rfl⟩ | ⟨_, _, _, rfl⟩ | ⟨_, _, rfl⟩
  all_goals rfl
theorem frCR_good {zr u : RS2} {x : Int32} {y : Int32} {wh : Int32} {r : Int32} (h : pR_good zr x y wh r u) : gC u = gC zr := by
  rcases h with ⟨_, _, _, _, rfl⟩ | ⟨_, _, _, _, rfl⟩ | ⟨_, _, _, rfl⟩ | ⟨_, _, rfl⟩
  all_goals rfl
theorem frCC_money {zc u : CS} {t : Int32} {wh : Int32} {r : Int64} (h : pC_money zc t wh r u) : fC u = fC zc := by
  rcases h with ⟨_, _, rfl⟩ | ⟨_, _, _, _, _, rfl⟩ | ⟨_, _, _, _, _, rfl⟩ | ⟨_, _, _, _, _, rfl⟩ | ⟨_, _, _, _, _, rfl⟩ | ⟨_, _, _, _, _, rfl⟩ | ⟨_, _, _, _, _, rfl⟩ | ⟨_, _, _, _, _, _, _, _, _, _, rfl⟩
  all_goals rfl
theorem frCR_money {zr u : RS2} {t : Int32} {wh : Int32} {r : Int64} (h : pR_money zr t wh r u) : gC u = gC zr := by
  rcases h with ⟨_, _, rfl⟩ | ⟨_, _, _, _, _, rfl⟩ | ⟨_, _, _, _, _, rfl⟩ | ⟨_, _, _, _, _, rfl⟩ | ⟨_, _, _, _, _, rfl⟩ | ⟨_, _, _, _, _, rfl⟩ | ⟨_, _, _, _, _, rfl⟩ | ⟨_, _, _, _, _, _, _, _, _, _, rfl⟩
  all_goals rfl
theorem frCC_spend {zc u : CS} {t : Int32} {wh : Int32} {pn : Int32} {r : Int64} (h : pC_spend zc t wh pn r u) : fC u = fC zc := by
  rcases h with ⟨_, _, rfl⟩ | ⟨_, _, _, _, _, rfl⟩ | ⟨_, _, _, _, _, _, _, _, rfl⟩ | ⟨_, _, _, _, _, _, _, _, rfl⟩ | ⟨_, _, _, _, _, _, _, rfl⟩ | ⟨_, _, _, _, _, _, rfl⟩
  all_goals rfl
theorem frCR_spend {zr u : RS2} {t : Int32} {wh : Int32} {pn : Int32} {r : Int64} (h : pR_spend zr t wh pn r u) : gC u = gC zr := by
  rcases h with ⟨_, _, rfl⟩ | ⟨_, _, _, _, _, rfl⟩ | ⟨_, _, _, _, _, _, rfl⟩ | ⟨_, _, _, _, _, _, _, _, _, _, rfl⟩ | ⟨_, _, _, _, _, _, _, _, _, _, rfl⟩ | ⟨_, _, _, _, _, _, _, _, _, _, rfl⟩ | ⟨_, _, _, _, _, _, _, _, _, _, rfl⟩ | ⟨_, _, _, _, _, _, _, _, _, _, rfl⟩ | ⟨_, _, _, _, _, _, _, _, _, _, rfl⟩ | ⟨_, _, _, _, _, _, _, _, _, _, rfl⟩ | ⟨_, _, _, _, _, _, _, _, _, _, rfl⟩ | ⟨_, _, _, _, _, _, _, rfl⟩
  all_goals rfl
theorem frCC_debt {zc u : CS} {g : Int32} {r : Int64} (h : pC_debt zc g r u) : fC u = fC zc := by
  rcases h with ⟨_, _, rfl⟩ | ⟨_, _, _, _, _, rfl⟩ | ⟨_, _, _, _, _, rfl⟩ | ⟨_, _, _, _, _, rfl⟩
  all_goals rfl
theorem frCR_debt {zr u : RS2} {g : Int32} {r : Int64} (h : pR_debt zr g r u) : gC u = gC zr := by
  rcases h with ⟨_, _, rfl⟩ | ⟨_, _, _, _, rfl⟩
  all_goals rfl
theorem frCC_tell {zc u : CS} {g : Int32} {r : Int32} (h : pC_tell zc g r u) : fC u = fC zc := by
  rcases h with ⟨_, _, rfl⟩ | ⟨_, _, _, _, _, rfl⟩ | ⟨_, _, _, _, _, rfl⟩ | ⟨_, _, _, _, _, rfl⟩
  all_goals rfl
theorem frCR_tell {zr u : RS2} {g : Int32} {r : Int32} (h : pR_tell zr g r u) : gC u = gC zr := by
  rcases h with ⟨_, _, rfl⟩ | ⟨_, _, _, _, _, _, _, rfl⟩ | ⟨_, _, _, _, _, _, _, rfl⟩ | ⟨_, _, _, _, _, _, rfl⟩ | ⟨_, _, _, _, _, _, _, _, rfl⟩ | ⟨_, _, _, _, _, _, _, _, rfl⟩ | ⟨_, _, _, _, _, _, _, rfl⟩ | ⟨_, _, _, _, _, _, _, _, rfl⟩ | ⟨_, _, _, _, _, _, _, _, rfl⟩ | ⟨_, _, _, _, _, _, _, rfl⟩
  all_goals rfl
theorem frCC_greet {zc u : CS} {g : Int32} {r : Int32} (h : pC_greet zc g r u) : fC u = fC zc := by
  rcases h with ⟨_, _, rfl⟩ | ⟨_, _, _, _, _, rfl⟩ | ⟨_, _, _, _, _, rfl⟩ | ⟨_, _, _, _, _, rfl⟩
  all_goals rfl
theorem frCR_greet {zr u : RS2} {g : Int32} {r : Int32} (h : pR_greet zr g r u) : gC u = gC zr := by
  rcases h with ⟨_, _, rfl⟩ | ⟨_, _, _, _, _, _, _, rfl⟩ | ⟨_, _, _, _, _, _, _, rfl⟩ | ⟨_, _, _, _, _, _, _, rfl⟩ | ⟨_, _, _, _, _, _, _, rfl⟩ | ⟨_, _, _, _, _, rfl⟩
  all_goals rfl
theorem frCC_as {zc u : CS} {g : Int32} {k : Int32} {r : Int32} (h : pC_as zc g k r u) : fC u = fC zc := by
  rcases h with ⟨_, _, rfl⟩ | ⟨_, _, _, _, _, _, _, rfl⟩ | ⟨_, _, _, _, _, _, _, rfl⟩ | ⟨_, _, _, _, _, _, rfl⟩ | ⟨_, _, _, _, _, _, _, rfl⟩ | ⟨_, _, _, _, _, _, _, rfl⟩ | ⟨_, _, _, _, _, _, rfl⟩ | ⟨_, _, _, _, _, _, _, rfl⟩ | ⟨_, _, _, _, _, _, _, rfl⟩ | ⟨_, _, _, _, _, _, rfl⟩
  all_goals rfl
theorem frCR_as {zr u : RS2} {g : Int32} {k : Int32} {r : Int32} (h : pR_as zr g k r u) : gC u = gC zr := by
  rcases h with ⟨_, _, rfl⟩ | ⟨_, _, _, _, _, _, rfl⟩ | ⟨_, _, _, _, _, _, rfl⟩ | ⟨_, _, _, _, _, rfl⟩
  all_goals rfl
theorem frCC_taken {zc u : CS} {t : Int32} {wh : Int32} {r : Int32} (h : pC_taken zc t wh r u) : fC u = fC zc := by
  rcases h with ⟨_, _, rfl⟩ | ⟨_, _, _, _, _, _, rfl⟩ | ⟨_, _, _, _, _, _, rfl⟩ | ⟨_, _, _, _, _, _, rfl⟩ | ⟨_, _, _, _, _, _, _, rfl⟩ | ⟨_, _, _, _, _, _, _, rfl⟩ | ⟨_, _, _, _, _, _, rfl⟩ | ⟨_, _, _, _, _, _, _, _, _, _, rfl⟩ | ⟨_, _, _, _, _, _, rfl⟩ | ⟨_, _, _, _, _, _, rfl⟩ | ⟨_, _, _, _, _, _, rfl⟩ | ⟨_, _, _, _, _, _, _, rfl⟩ | ⟨_, _, _, _, _, _, _, rfl⟩ | ⟨_, _, _, _, _, _, rfl⟩ | ⟨_, _, _, _, _, _, _, _, _, _, rfl⟩ | ⟨_, _, _, _, _, _, rfl⟩ | ⟨_, _, _, _, _, _, rfl⟩ | ⟨_, _, _, _, _, _, rfl⟩ | ⟨_, _, _, _, _, _, _, rfl⟩ | ⟨_, _, _, _, _, _, _, rfl⟩ | ⟨_, _, _, _, _, _, rfl⟩ | ⟨_, _, _, _, _, _, _, _, _, _, rfl⟩
  all_goals rfl
theorem frCR_taken {zr u : RS2} {t : Int32} {wh : Int32} {r : Int32} (h : pR_taken zr t wh r u) : gC u = gC zr := by
  rcases h with ⟨_, _, rfl⟩ | ⟨_, _, _, _, _, rfl⟩ | ⟨_, _, _, _, _, rfl⟩ | ⟨_, _, _, _, _, rfl⟩ | ⟨_, _, _, _, _, _, rfl⟩ | ⟨_, _, _, _, _, _, rfl⟩ | ⟨_, _, _, _, _, rfl⟩ | ⟨_, _, _, _, _, _, _, _, _, rfl⟩
  all_goals rfl
theorem frCC_settle {zc u : CS} {t : Int32} {r : Int64} (h : pC_settle zc t r u) : fC u = fC zc := by
  rcases h with ⟨_, _, rfl⟩ | ⟨_, _, _, _, _, _, rfl⟩ | ⟨_, _, _, _, _, _, rfl⟩ | ⟨_, _, _, _, _, _, rfl⟩ | ⟨_, _, _, _, _, _, rfl⟩ | ⟨_, _, _, _, _, _, rfl⟩ | ⟨_, _, _, _, _, _, rfl⟩
  all_goals rfl
theorem frCR_settle {zr u : RS2} {t : Int32} {r : Int64} (h : pR_settle zr t r u) : gC u = gC zr := by
  rcases h with ⟨_, _, rfl⟩ | ⟨_, _, _, _, _, _, _, _, _, _, _, _, rfl⟩ | ⟨_, _, _, _, _, _, _, _, _, _, _, _, rfl⟩ | ⟨_, _, _, _, _, _, _, _, _, _, _, _, rfl⟩ | ⟨_, _, _, _, _, _, _, _, _, _, _, _, rfl⟩ | ⟨_, _, _, _, _, _, _, _, _, _, _, _, rfl⟩ | ⟨_, _, _, _, _, _, _, _, _, _, _, _, rfl⟩ | ⟨_, _, _, _, _, _, _, _, _, _, _, _, rfl⟩ | ⟨_, _, _, _, _, _, _, _, _, _, _, _, rfl⟩ | ⟨_, _, _, _, _, _, _, _, _, _, _, _, rfl⟩ | ⟨_, _, _, _, _, _, _, _, _, _, _, _, rfl⟩ | ⟨_, _, _, _, _, _, _, _, _, _, _, _, rfl⟩ | ⟨_, _, _, _, _, _, _, _, _, _, _, _, rfl⟩ | ⟨_, _, _, _, _, _, _, _, _, _, _, _, rfl⟩ | ⟨_, _, _, _, _, _, _, _, _, _, _, _, rfl⟩ | ⟨_, _, _, _, _, _, _, _, _, _, _, _, rfl⟩ | ⟨_, _, _, _, _, _, _, _, _, _, _, _, rfl⟩ | ⟨_, _, _, _, _, rfl⟩
  all_goals rfl
theorem frCC_about {zc u : CS} {pp : Int32} {wh : Int32} {r : Int32} (h : pC_about zc pp wh r u) : fC u = fC zc := by
  rcases h with ⟨_, _, rfl⟩ | ⟨_, _, _, _, _, _, rfl⟩ | ⟨_, _, _, _, _, _, rfl⟩ | ⟨_, _, _, _, _, _, rfl⟩ | ⟨_, _, _, _, _, _, rfl⟩ | ⟨_, _, _, _, _, _, rfl⟩ | ⟨_, _, _, _, _, _, rfl⟩ | ⟨_, _, _, _, _, _, rfl⟩ | ⟨_, _, _, _, _, _, _, _, _, _, _, _, rfl⟩ | ⟨_, _, _, _, _, _, rfl⟩ | ⟨_, _, _, _, _, _, rfl⟩ | ⟨_, _, _, _, _, _, rfl⟩ | ⟨_, _, _, _, _, _, rfl⟩ | ⟨_, _, _, _, _, _, rfl⟩ | ⟨_, _, _, _, _, _, rfl⟩ | ⟨_, _, _, _, _, _, rfl⟩ | ⟨_, _, _, _, _, _, _, _, _, _, _, _, rfl⟩
  all_goals rfl
theorem frCR_about {zr u : RS2} {pp : Int32} {wh : Int32} {r : Int32} (h : pR_about zr pp wh r u) : gC u = gC zr := by
  rcases h with ⟨_, _, rfl⟩ | ⟨_, _, _, _, _, rfl⟩ | ⟨_, _, _, _, _, rfl⟩ | ⟨_, _, _, _, _, rfl⟩ | ⟨_, _, _, _, _, rfl⟩ | ⟨_, _, _, _, _, rfl⟩ | ⟨_, _, _, _, _, _, _, rfl⟩ | ⟨_, _, _, _, _, rfl⟩ | ⟨_, _, _, _, _, _, _, _, _, _, _, rfl⟩
  all_goals rfl
theorem frCC_gang {zc u : CS} {k : Int32} {r : Int32} (h : pC_gang zc k r u) : fC u = fC zc := by
  rcases h with ⟨_, _, _, _, _, _, rfl⟩ | ⟨_, _, _, _, _, _, rfl⟩ | ⟨_, _, _, _, _, _, rfl⟩ | ⟨_, _, _, rfl⟩ | ⟨_, _, rfl⟩
  all_goals rfl
theorem frCR_gang {zr u : RS2} {k : Int32} {r : Int32} (h : pR_gang zr k r u) : gC u = gC zr := by
  rcases h with ⟨_, _, _, _, rfl⟩ | ⟨_, _, _, rfl⟩ | ⟨_, _, rfl⟩
  all_goals rfl
theorem frCC_parcel {zc u : CS} {t : Int32} {tn : Int32} {gd : Int32} {r : Int32} (h : pC_parcel zc t tn gd r u) : fC u = fC zc := by
  rcases h with ⟨_, _, rfl⟩ | ⟨_, _, _, _, _, rfl⟩ | ⟨_, _, _, _, _, _, _, _, _, _, rfl⟩ | ⟨_, _, _, _, _, _, _, _, rfl⟩ | ⟨_, _, _, _, _, _, _, rfl⟩ | ⟨_, _, _, _, _, _, rfl⟩
  all_goals rfl
theorem frCR_parcel {zr u : RS2} {t : Int32} {tn : Int32} {gd : Int32} {r : Int32} (h : pR_parcel zr t tn gd r u) : gC u = gC zr := by
  rcases h with ⟨_, _, rfl⟩ | ⟨_, _, _, _, _, rfl⟩ | ⟨_, _, _, _, _, _, _, _, _, rfl⟩ | ⟨_, _, _, _, _, _, _, _, rfl⟩ | ⟨_, _, _, _, _, _, _, rfl⟩ | ⟨_, _, _, _, _, _, rfl⟩
  all_goals rfl
theorem frCC_pitch {zc u : CS} {x : Int32} {y : Int32} {xx : Int32} {yy : Int32} {tn : Int32} {r : Int32} (h : pC_pitch zc x y xx yy tn r u) : fC u = fC zc := by
  rcases h with ⟨_, _, rfl⟩ | ⟨_, _, _, _, rfl⟩ | ⟨_, _, _, _, _, rfl⟩ | ⟨_, _, _, _, _, _, _, _, _, _, rfl⟩ | ⟨_, _, _, _, _, _, _, _, rfl⟩ | ⟨_, _, _, _, _, _, _, rfl⟩ | ⟨_, _, _, _, _, _, rfl⟩ | ⟨_, _, _, rfl⟩
  all_goals rfl
theorem frCR_pitch {zr u : RS2} {x : Int32} {y : Int32} {xx : Int32} {yy : Int32} {tn : Int32} {r : Int32} (h : pR_pitch zr x y xx yy tn r u) : gC u = gC zr := by
  rcases h with ⟨_, _, rfl⟩ | ⟨_, _, _, _, rfl⟩ | ⟨_, _, _, _, _, rfl⟩ | ⟨_, _, _, _, _, _, _, _, _, rfl⟩ | ⟨_, _, _, _, _, _, _, _, rfl⟩ | ⟨_, _, _, _, _, _, _, _, _, rfl⟩ | ⟨_, _, _, _, _, _, rfl⟩ | ⟨_, _, _, rfl⟩
  all_goals rfl
theorem frCC_auction {zc u : CS} {pp : Int32} {sv : Int32} {r : Int32} (h : pC_auction zc pp sv r u) : fC u = fC zc := by
  rcases h with ⟨_, _, rfl⟩ | ⟨_, _, _, _, _, _, _, _, rfl⟩ | ⟨_, _, _, _, _, _, _, rfl⟩ | ⟨_, _, _, _, _, _, _, rfl⟩ | ⟨_, _, _, _, _, _, _, rfl⟩ | ⟨_, _, _, _, _, _, rfl⟩ | ⟨_, _, _, _, _, _, rfl⟩
  all_goals rfl
theorem frCR_auction {zr u : RS2} {pp : Int32} {sv : Int32} {r : Int32} (h : pR_auction zr pp sv r u) : gC u = gC zr := by
  rcases h with ⟨_, _, rfl⟩ | ⟨_, _, _, _, _, _, _, _, rfl⟩ | ⟨_, _, _, _, _, _, _, _, _, rfl⟩ | ⟨_, _, _, _, _, _, _, _, _, rfl⟩ | ⟨_, _, _, _, _, rfl⟩
  all_goals rfl
theorem frCC_bid {zc u : CS} {g : Int32} {sv : Int32} {r : Int32} (h : pC_bid zc g sv r u) : fC u = fC zc := by
  rcases h with ⟨_, _, rfl⟩ | ⟨_, _, _, _, _, rfl⟩ | ⟨_, _, _, _, _, _, _, _, _, _, _, rfl⟩ | ⟨_, _, _, _, _, _, _, _, _, _, _, rfl⟩ | ⟨_, _, _, _, _, _, _, _, _, _, rfl⟩ | ⟨_, _, _, _, _, _, _, _, rfl⟩ | ⟨_, _, _, _, _, _, _, _, _, _, _, rfl⟩ | ⟨_, _, _, _, _, _, _, _, _, _, _, rfl⟩ | ⟨_, _, _, _, _, _, _, _, _, _, rfl⟩ | ⟨_, _, _, _, _, _, _, _, rfl⟩ | ⟨_, _, _, _, _, _, _, _, _, _, _, rfl⟩ | ⟨_, _, _, _, _, _, _, _, _, _, _, rfl⟩ | ⟨_, _, _, _, _, _, _, _, _, _, rfl⟩ | ⟨_, _, _, _, _, _, _, _, rfl⟩ | ⟨_, _, _, _, _, _, _, _, _, rfl⟩ | ⟨_, _, _, _, _, _, _, _, _, _, _, rfl⟩ | ⟨_, _, _, _, _, _, _, _, _, _, _, rfl⟩ | ⟨_, _, _, _, _, _, _, _, _, _, rfl⟩ | ⟨_, _, _, _, _, _, _, _, rfl⟩ | ⟨_, _, _, _, _, _, _, _, _, rfl⟩ | ⟨_, _, _, _, _, _, _, _, _, _, _, rfl⟩ | ⟨_, _, _, _, _, _, _, _, _, _, _, rfl⟩ | ⟨_, _, _, _, _, _, _, _, _, _, rfl⟩ | ⟨_, _, _, _, _, _, _, _, rfl⟩ | ⟨_, _, _, _, _, _, _, _, _, rfl⟩ | ⟨_, _, _, _, _, _, _, _, _, _, _, rfl⟩ | ⟨_, _, _, _, _, _, _, _, _, _, _, rfl⟩ | ⟨_, _, _, _, _, _, _, _, _, _, rfl⟩ | ⟨_, _, _, _, _, _, _, _, rfl⟩
  all_goals rfl
theorem frCR_bid {zr u : RS2} {g : Int32} {sv : Int32} {r : Int32} (h : pR_bid zr g sv r u) : gC u = gC zr := by
  rcases h with ⟨_, _, rfl⟩ | ⟨_, _, _, _, _, _, _, _, rfl⟩ | ⟨_, _, _, _, _, _, _, _, _, _, rfl⟩ | ⟨_, _, _, _, _, _, _, _, _, _, rfl⟩ | ⟨_, _, _, _, _, _, _, _, _, rfl⟩ | ⟨_, _, _, _, _, _, _, rfl⟩ | ⟨_, _, _, _, _, _, _, _, rfl⟩ | ⟨_, _, _, _, _, _, _, _, _, _, rfl⟩ | ⟨_, _, _, _, _, _, _, _, _, _, rfl⟩ | ⟨_, _, _, _, _, _, _, _, _, rfl⟩ | ⟨_, _, _, _, _, _, _, rfl⟩ | ⟨_, _, _, _, _, rfl⟩
  all_goals rfl
theorem frCC_strike {zc u : CS} {r : Int32} (h : pC_strike zc r u) : fC u = fC zc := by
  rcases h with ⟨_, _, rfl⟩ | ⟨_, _, _, rfl⟩ | ⟨_, _, _, _, _, _, _, _, _, _, _, rfl⟩ | ⟨_, _, _, _, _, rfl⟩ | ⟨_, _, _, _, _, _, _, _, _, _, _, rfl⟩ | ⟨_, _, _, _, _, rfl⟩ | ⟨_, _, _, _, _, _, _, _, _, _, _, rfl⟩ | ⟨_, _, _, _, _, rfl⟩
  all_goals rfl
theorem frCR_strike {zr u : RS2} {r : Int32} (h : pR_strike zr r u) : gC u = gC zr := by
  rcases h with ⟨_, _, _, rfl⟩ | ⟨_, _, _, _, _, _, _, _, _, rfl⟩ | ⟨_, _, _, _, _, _, _, _, rfl⟩ | ⟨_, _, _, _, _, _, _, rfl⟩
  all_goals rfl
theorem frCC_foretold {zc u : CS} {pp : Int32} {wh : Int32} {r : Int64} (h : pC_foretold zc pp wh r u) : fC u = fC zc := by
  rcases h with ⟨_, _, rfl⟩ | ⟨_, _, _, _, _, _, rfl⟩ | ⟨_, _, _, _, _, _, rfl⟩ | ⟨_, _, _, _, _, rfl⟩
  all_goals rfl
theorem frCR_foretold {zr u : RS2} {pp : Int32} {wh : Int32} {r : Int64} (h : pR_foretold zr pp wh r u) : gC u = gC zr := by
  rcases h with ⟨_, _, rfl⟩ | ⟨_, _, _, _, _, _, rfl⟩ | ⟨_, _, _, _, _, _, rfl⟩ | ⟨_, _, _, _, _, rfl⟩
  all_goals rfl
theorem frCC_sheet {zc u : CS} {k : Int32} {ln : Int32} {n : Int32} {r : Int32} (h : pC_sheet zc k ln n r u) : fC u = fC zc := by
  rcases h with ⟨_, _, rfl⟩ | ⟨_, _, _, _, _, rfl⟩ | ⟨_, _, _, _, _, _, _, rfl⟩ | ⟨_, _, _, _, _, _, _, rfl⟩ | ⟨_, _, _, _, _, _, rfl⟩
  all_goals rfl
theorem frCR_sheet {zr u : RS2} {k : Int32} {ln : Int32} {n : Int32} {r : Int32} (h : pR_sheet zr k ln n r u) : gC u = gC zr := by
  rcases h with ⟨_, _, rfl⟩ | ⟨_, _, _, _, _, rfl⟩ | ⟨_, _, _, _, _, _, _, _, _, _, rfl⟩ | ⟨_, _, _, _, _, _, _, rfl⟩ | ⟨_, _, _, _, _, _, rfl⟩
  all_goals rfl
theorem frCC_lose {zc u : CS} {k : Int32} {r : Int32} (h : pC_lose zc k r u) : fC u = fC zc := by
  rcases h with ⟨_, _, rfl⟩ | ⟨_, _, _, _, _, rfl⟩ | ⟨_, _, _, _, _, rfl⟩
  all_goals rfl
theorem frCR_lose {zr u : RS2} {k : Int32} {r : Int32} (h : pR_lose zr k r u) : gC u = gC zr := by
  rcases h with ⟨_, _, rfl⟩ | ⟨_, _, _, _, _, rfl⟩ | ⟨_, _, _, _, _, rfl⟩
  all_goals rfl
theorem frCC_put {zc u : CS} {k : Int32} {ix : Int32} {v : Int32} {r : Int32} (h : pC_put zc k ix v r u) : fC u = fC zc := by
  rcases h with ⟨_, _, rfl⟩ | ⟨_, _, _, _, _, _, rfl⟩ | ⟨_, _, _, _, _, _, rfl⟩ | ⟨_, _, _, _, _, rfl⟩
  all_goals rfl
theorem frCR_put {zr u : RS2} {k : Int32} {i : Int32} {v : Int32} {r : Int32} (h : pR_put zr k i v r u) : gC u = gC zr := by
  rcases h with ⟨_, _, rfl⟩ | ⟨_, _, _, _, _, _, _, _, _, _, rfl⟩ | ⟨_, _, _, _, _, _, _, _, _, _, rfl⟩ | ⟨_, _, _, _, _, _, _, _, _, rfl⟩ | ⟨_, _, _, _, _, rfl⟩
  all_goals rfl
theorem frCC_cell {zc u : CS} {k : Int32} {ix : Int32} {ln : Int32} {r : Int64} (h : pC_cell zc k ix ln r u) : fC u = fC zc := by
  rcases h with ⟨_, _, rfl⟩ | ⟨_, _, _, _, _, _, rfl⟩ | ⟨_, _, _, _, _, _, _, _, rfl⟩ | ⟨_, _, _, _, _, _, _, _, rfl⟩ | ⟨_, _, _, _, _, _, _, rfl⟩ | ⟨_, _, _, _, _, rfl⟩
  all_goals rfl
theorem frCR_cell {zr u : RS2} {k : Int32} {i : Int32} {ln : Int32} {r : Int64} (h : pR_cell zr k i ln r u) : gC u = gC zr := by
  rcases h with ⟨_, _, rfl⟩ | ⟨_, _, _, _, _, _, _, _, _, _, rfl⟩ | ⟨_, _, _, _, _, _, _, rfl⟩ | ⟨_, _, _, _, _, _, _, _, _, _, _, rfl⟩ | ⟨_, _, _, _, _, _, _, _, rfl⟩ | ⟨_, _, _, _, _, _, _, rfl⟩ | ⟨_, _, _, _, _, rfl⟩
  all_goals rfl
theorem frCC_suspects {zc u : CS} {r : Int32} (h : pC_suspects zc r u) : fC u = fC zc := by
  rcases h with ⟨_, rfl⟩
  all_goals rfl
theorem frCR_suspects {zr u : RS2} {r : Int32} (h : pR_suspects zr r u) : gC u = gC zr := by
  rcases h with ⟨_, rfl⟩
  all_goals rfl
theorem frCC_suspect {zc u : CS} {ix : Int32} {r : Int32} (h : pC_suspect zc ix r u) : fC u = fC zc := by
  rcases h with ⟨_, _, rfl⟩ | ⟨_, _, _, _, _, rfl⟩
  all_goals rfl
theorem frCR_suspect {zr u : RS2} {ix : Int32} {r : Int32} (h : pR_suspect zr ix r u) : gC u = gC zr := by
  rcases h with ⟨_, _, rfl⟩ | ⟨_, _, _, _, _, rfl⟩
  all_goals rfl
theorem frCC_skill {zc u : CS} {g : Int32} {wh : Int32} {r : Int64} (h : pC_skill zc g wh r u) : fC u = fC zc := by
  rcases h with ⟨_, _, rfl⟩ | ⟨_, _, _, _, _, _, _, _, _, rfl⟩ | ⟨_, _, _, _, _, _, _, _, _, rfl⟩ | ⟨_, _, _, _, _, _, _, _, _, rfl⟩ | ⟨_, _, _, _, _, _, _, _, _, rfl⟩ | ⟨_, _, _, _, _, rfl⟩
  all_goals rfl
theorem frCR_skill {zr u : RS2} {g : Int32} {wh : Int32} {r : Int64} (h : pR_skill zr g wh r u) : gC u = gC zr := by
  rcases h with ⟨_, _, rfl⟩ | ⟨_, _, _, _, _, _, _, _, _, rfl⟩ | ⟨_, _, _, _, _, _, _, _, _, rfl⟩ | ⟨_, _, _, _, _, _, rfl⟩ | ⟨_, _, _, _, _, rfl⟩
  all_goals rfl
theorem frCC_copy {zc u : CS} {k : Int32} {ix : Int32} {ot : Int32} {jx : Int32} {n : Int32} {r : Int32} (h : pC_copy zc k ix ot jx n r u) : fC u = fC zc := by
  rcases h with ⟨_, _, _, rfl⟩ | ⟨_, _, _, _, _, rfl⟩ | ⟨_, _, _, _, _, rfl⟩ | ⟨_, _, _, _, _, _, rfl⟩ | ⟨_, _, _, _, _, _, _, _, _, rfl⟩ | ⟨_, _, _, _, _, _, _, _, _, _, _, _, _, _, _, _, _, _, rfl⟩ | ⟨_, _, _, _, _, _, _, _, _, _, rfl⟩ | ⟨_, _, _, _, _, _, _, _, rfl⟩ | ⟨_, _, _, _, _, _, _, rfl⟩ | ⟨_, _, _, _, _, _, _, _, _, rfl⟩ | ⟨_, _, _, _, _, _, _, _, _, _, _, _, rfl⟩ | ⟨_, _, _, _, _, _, _, _, _, _, _, _, _, _, _, _, _, _, _, _, _, rfl⟩ | ⟨_, _, _, _, _, _, _, _, _, _, _, _, _, rfl⟩ | ⟨_, _, _, _, _, _, _, _, _, _, _, rfl⟩ | ⟨_, _, _, _, _, _, _, _, _, _, rfl⟩
  all_goals rfl
theorem frCR_copy {zr u : RS2} {k : Int32} {ix : Int32} {ot : Int32} {jx : Int32} {n : Int32} {r : Int32} (h : pR_copy zr k ix ot jx n r u) : gC u = gC zr := by
  rcases h with ⟨_, _, rfl⟩ | ⟨_, _, _, _, _, rfl⟩ | ⟨_, _, _, _, _, _, _, _, rfl⟩ | ⟨_, _, _, _, _, _, _, _, _, _, _, rfl⟩ | ⟨_, _, _, _, _, _, _, _, _, _, _, _, _, _, _, _, _, _, _, _, rfl⟩ | ⟨_, _, _, _, _, _, _, _, _, _, _, _, rfl⟩ | ⟨_, _, _, _, _, _, _, _, _, _, rfl⟩ | ⟨_, _, _, _, _, _, _, _, _, rfl⟩
  all_goals rfl
theorem stC_trace {zc u : CS} {zr w9 : RS2} {r r' : Int32} (h : relC zc zr) (hc : pC_trace zc r u) (hr : pR_trace zr r' w9) : relC u w9 := relC_of (frCC_trace hc) (frCR_trace hr) h
theorem stC_fault {zc u : CS} {zr w9 : RS2} {r r' : Int32} (h : relC zc zr) (hc : pC_fault zc r u) (hr : pR_fault zr r' w9) : relC u w9 := relC_of (frCC_fault hc) (frCR_fault hr) h
theorem stC_told {zc u : CS} {zr w9 : RS2} {a0 : Int32} {r r' : Int32} (h : relC zc zr) (hc : pC_told zc a0 r u) (hr : pR_told zr a0 r' w9) : relC u w9 := relC_of (frCC_told hc) (frCR_told hr) h
theorem stC_good {zc u : CS} {zr w9 : RS2} {x : Int32} {y : Int32} {wh : Int32} {r r' : Int32} (h : relC zc zr) (hc : pC_good zc x y wh r u) (hr : pR_good zr x y wh r' w9) : relC u w9 := relC_of (frCC_good hc) (frCR_good hr) h
theorem stC_money {zc u : CS} {zr w9 : RS2} {t : Int32} {wh : Int32} {r r' : Int64} (h : relC zc zr) (hc : pC_money zc t wh r u) (hr : pR_money zr t wh r' w9) : relC u w9 := relC_of (frCC_money hc) (frCR_money hr) h
theorem stC_spend {zc u : CS} {zr w9 : RS2} {t : Int32} {wh : Int32} {pn : Int32} {r r' : Int64} (h : relC zc zr) (hc : pC_spend zc t wh pn r u) (hr : pR_spend zr t wh pn r' w9) : relC u w9 := relC_of (frCC_spend hc) (frCR_spend hr) h
theorem stC_debt {zc u : CS} {zr w9 : RS2} {g : Int32} {r r' : Int64} (h : relC zc zr) (hc : pC_debt zc g r u) (hr : pR_debt zr g r' w9) : relC u w9 := relC_of (frCC_debt hc) (frCR_debt hr) h
theorem stC_tell {zc u : CS} {zr w9 : RS2} {g : Int32} {r r' : Int32} (h : relC zc zr) (hc : pC_tell zc g r u) (hr : pR_tell zr g r' w9) : relC u w9 := relC_of (frCC_tell hc) (frCR_tell hr) h
theorem stC_greet {zc u : CS} {zr w9 : RS2} {g : Int32} {r r' : Int32} (h : relC zc zr) (hc : pC_greet zc g r u) (hr : pR_greet zr g r' w9) : relC u w9 := relC_of (frCC_greet hc) (frCR_greet hr) h
theorem stC_as {zc u : CS} {zr w9 : RS2} {g : Int32} {k : Int32} {r r' : Int32} (h : relC zc zr) (hc : pC_as zc g k r u) (hr : pR_as zr g k r' w9) : relC u w9 := relC_of (frCC_as hc) (frCR_as hr) h
theorem stC_taken {zc u : CS} {zr w9 : RS2} {t : Int32} {wh : Int32} {r r' : Int32} (h : relC zc zr) (hc : pC_taken zc t wh r u) (hr : pR_taken zr t wh r' w9) : relC u w9 := relC_of (frCC_taken hc) (frCR_taken hr) h
theorem stC_settle {zc u : CS} {zr w9 : RS2} {t : Int32} {r r' : Int64} (h : relC zc zr) (hc : pC_settle zc t r u) (hr : pR_settle zr t r' w9) : relC u w9 := relC_of (frCC_settle hc) (frCR_settle hr) h
theorem stC_about {zc u : CS} {zr w9 : RS2} {pp : Int32} {wh : Int32} {r r' : Int32} (h : relC zc zr) (hc : pC_about zc pp wh r u) (hr : pR_about zr pp wh r' w9) : relC u w9 := relC_of (frCC_about hc) (frCR_about hr) h
theorem stC_gang {zc u : CS} {zr w9 : RS2} {k : Int32} {r r' : Int32} (h : relC zc zr) (hc : pC_gang zc k r u) (hr : pR_gang zr k r' w9) : relC u w9 := relC_of (frCC_gang hc) (frCR_gang hr) h
theorem stC_parcel {zc u : CS} {zr w9 : RS2} {t : Int32} {tn : Int32} {gd : Int32} {r r' : Int32} (h : relC zc zr) (hc : pC_parcel zc t tn gd r u) (hr : pR_parcel zr t tn gd r' w9) : relC u w9 := relC_of (frCC_parcel hc) (frCR_parcel hr) h
theorem stC_pitch {zc u : CS} {zr w9 : RS2} {x : Int32} {y : Int32} {xx : Int32} {yy : Int32} {tn : Int32} {r r' : Int32} (h : relC zc zr) (hc : pC_pitch zc x y xx yy tn r u) (hr : pR_pitch zr x y xx yy tn r' w9) : relC u w9 := relC_of (frCC_pitch hc) (frCR_pitch hr) h
theorem stC_auction {zc u : CS} {zr w9 : RS2} {pp : Int32} {sv : Int32} {r r' : Int32} (h : relC zc zr) (hc : pC_auction zc pp sv r u) (hr : pR_auction zr pp sv r' w9) : relC u w9 := relC_of (frCC_auction hc) (frCR_auction hr) h
theorem stC_bid {zc u : CS} {zr w9 : RS2} {g : Int32} {sv : Int32} {r r' : Int32} (h : relC zc zr) (hc : pC_bid zc g sv r u) (hr : pR_bid zr g sv r' w9) : relC u w9 := relC_of (frCC_bid hc) (frCR_bid hr) h
theorem stC_strike {zc u : CS} {zr w9 : RS2} {r r' : Int32} (h : relC zc zr) (hc : pC_strike zc r u) (hr : pR_strike zr r' w9) : relC u w9 := relC_of (frCC_strike hc) (frCR_strike hr) h
theorem stC_foretold {zc u : CS} {zr w9 : RS2} {pp : Int32} {wh : Int32} {r r' : Int64} (h : relC zc zr) (hc : pC_foretold zc pp wh r u) (hr : pR_foretold zr pp wh r' w9) : relC u w9 := relC_of (frCC_foretold hc) (frCR_foretold hr) h
theorem stC_sheet {zc u : CS} {zr w9 : RS2} {k : Int32} {ln : Int32} {n : Int32} {r r' : Int32} (h : relC zc zr) (hc : pC_sheet zc k ln n r u) (hr : pR_sheet zr k ln n r' w9) : relC u w9 := relC_of (frCC_sheet hc) (frCR_sheet hr) h
theorem stC_lose {zc u : CS} {zr w9 : RS2} {k : Int32} {r r' : Int32} (h : relC zc zr) (hc : pC_lose zc k r u) (hr : pR_lose zr k r' w9) : relC u w9 := relC_of (frCC_lose hc) (frCR_lose hr) h
theorem stC_put {zc u : CS} {zr w9 : RS2} {k : Int32} {ix : Int32} {v : Int32} {r r' : Int32} (h : relC zc zr) (hc : pC_put zc k ix v r u) (hr : pR_put zr k ix v r' w9) : relC u w9 := relC_of (frCC_put hc) (frCR_put hr) h
theorem stC_cell {zc u : CS} {zr w9 : RS2} {k : Int32} {ix : Int32} {ln : Int32} {r r' : Int64} (h : relC zc zr) (hc : pC_cell zc k ix ln r u) (hr : pR_cell zr k ix ln r' w9) : relC u w9 := relC_of (frCC_cell hc) (frCR_cell hr) h
theorem stC_suspects {zc u : CS} {zr w9 : RS2} {r r' : Int32} (h : relC zc zr) (hc : pC_suspects zc r u) (hr : pR_suspects zr r' w9) : relC u w9 := relC_of (frCC_suspects hc) (frCR_suspects hr) h
theorem stC_suspect {zc u : CS} {zr w9 : RS2} {ix : Int32} {r r' : Int32} (h : relC zc zr) (hc : pC_suspect zc ix r u) (hr : pR_suspect zr ix r' w9) : relC u w9 := relC_of (frCC_suspect hc) (frCR_suspect hr) h
theorem stC_skill {zc u : CS} {zr w9 : RS2} {g : Int32} {wh : Int32} {r r' : Int64} (h : relC zc zr) (hc : pC_skill zc g wh r u) (hr : pR_skill zr g wh r' w9) : relC u w9 := relC_of (frCC_skill hc) (frCR_skill hr) h
theorem stC_copy {zc u : CS} {zr w9 : RS2} {k : Int32} {ix : Int32} {ot : Int32} {jx : Int32} {n : Int32} {r r' : Int32} (h : relC zc zr) (hc : pC_copy zc k ix ot jx n r u) (hr : pR_copy zr k ix ot jx n r' w9) : relC u w9 := relC_of (frCC_copy hc) (frCR_copy hr) h
theorem chL_cg {g g' a b : Nat → Int32} {f f' s : Nat} (hab : ∀ j, j < 48 → a j = b j) : ∀ n, s + n ≤ 48 → (∀ c, c < n → g (f + c) = g' (f' + c)) → ∀ j, j < 48 → chL g f s a n j = chL g' f' s b n j
  | 0, _, _, j, hj => hab j hj
  | n + 1, hn, hg, j, hj => by
    have ih := chL_cg (s := s) hab n (by omega) (fun c hc => hg c (by omega))
    rw [chL, chL, hg n (by omega)]
    by_cases q : g' (f' + n) < 0
    · rw [if_pos q, if_pos q]; exact ih j hj
    · rw [if_neg q, if_neg q]; exact tcL_cg (by omega) ih hj
theorem chH_cg {g g' a b : Nat → Int32} {f f' s : Nat} (hab : ∀ j, j < 48 → a j = b j) : ∀ n, s + n ≤ 48 → (∀ c, c < n → g (f + c) = g' (f' + c)) → ∀ j, j < 48 → chH g f s a n j = chH g' f' s b n j
  | 0, _, _, j, hj => hab j hj
  | n + 1, hn, hg, j, hj => by
    have ih := chH_cg (s := s) hab n (by omega) (fun c hc => hg c (by omega))
    rw [chH, chH, hg n (by omega)]
    by_cases q : g' (f' + n) < 0
    · rw [if_pos q, if_pos q]; exact ih j hj
    · rw [if_neg q, if_neg q]; exact tcH_cg (by omega) ih hj
theorem chL_rg {g a : Nat → Int32} {f s : Nat} (ha : rngL a) : ∀ n, (∀ c, c < n → g (f + c) ≤ 1000) → rngL (chL g f s a n)
  | 0, _ => ha
  | n + 1, hg => by
    have ih := chL_rg (s := s) ha n (fun c hc => hg c (by omega))
    rw [chL]
    by_cases q : g (f + n) < 0
    · rw [if_pos q]; exact ih
    · rw [if_neg q]; exact rng_tcL ih ⟨Int32.not_lt.mp q, hg n (by omega)⟩
theorem chH_rg {g a : Nat → Int32} {f s : Nat} (ha : rngL a) : ∀ n, (∀ c, c < n → g (f + c) ≤ 1000) → rngL (chH g f s a n)
  | 0, _ => ha
  | n + 1, hg => by
    have ih := chH_rg (s := s) ha n (fun c hc => hg c (by omega))
    rw [chH]
    by_cases q : g (f + n) < 0
    · rw [if_pos q]; exact ih
    · rw [if_neg q]; exact rng_tcH ih ⟨Int32.not_lt.mp q, hg n (by omega)⟩
theorem cfault_0 {ln le la : Int32} {ia nn sa : Nat} (h1 : ¬ ln = -1) (h2 : ln = la) (h3 : ia + nn ≤ 48) (h4 : ((ia + nn : Nat) : Int) ≤ le.toInt) (h5 : sa + nn ≤ 48) (h6 : sa < 48) : cfault ln le la (nI ia) (nI nn) (nI sa) = 0 := by
  have e : (48 : Int32) - nI sa = nI (48 - sa) := pk_sub (a := 48) (by omega)
  have h48 : ¬ (48 : Int32) - nI sa < nI nn := by
    rw [e]; exact Int32.not_lt.mpr (nI_le (by omega) (by omega))
  rw [cfault, if_neg h1, if_neg (not_not_intro h2), if_neg (not_not_intro (nI_pos' (by omega))), if_neg (fun z => z.2 (hold_of h4 h3)), if_neg h48]
/-- what the reference's chart does to the lode: nothing, or it narrows -/
theorem chart_R {zr v : RS2} {k ln ix n sv r' : Int32} (hr : pR_chart zr k ln ix n sv r' v) : (gC v = gC zr ∧ ∀ js ia sa nn : Nat, k = nI js → js < 4 → ix = nI ia → sv = nI sa → n = nI nn → sa < 48 → (0 ≤ ln ∧ ln ≤ 2) → 0 ≤ rs_I zr 7 js → rs_I zr 8 js = ln → ia + nn ≤ 48 → sa + nn ≤ 48 → ((ia + nn : Nat) : Int) ≤ (rs_I zr 7 js).toInt → (∀ c, c < nn → rs_I zr 9 (48 * js + ia + c) ≤ 1000) → False) ∨
    (∃ js ia sa nn : Nat, k = nI js ∧ js < 4 ∧ ix = nI ia ∧ sv = nI sa ∧ n = nI nn ∧ (0 ≤ sv ∧ sv ≤ 47) ∧ (0 ≤ ln ∧ ln ≤ 2) ∧ 0 ≤ rs_I zr 7 js ∧ rs_I zr 8 js = ln ∧ ia + nn ≤ 48 ∧ sa + nn ≤ 48 ∧ ((ia + nn : Nat) : Int) ≤ (rs_I zr 7 js).toInt ∧ (∀ c, c < nn → rs_I zr 9 (48 * js + ia + c) ≤ 1000) ∧ ∃ (fl1 fh1 al1 ah1 : Nat → Int32) (fa1 q : Int32), (((minL (rs_i zr 1) (chL (rs_I zr 9) (48 * js + ia) sa (rs_I zr 2) nn) al1 ∧ maxH (rs_i zr 1) (chH (rs_I zr 9) (48 * js + ia) sa (rs_I zr 3) nn) ah1) ∧ (rngL al1 ∧ rngL ah1)) ∧ ((q = -3 ∧ (∃ j, j < 48 ∧ ah1 j < al1 j) ∧ fl1 = (rs_I zr 2) ∧ fh1 = (rs_I zr 3) ∧ fa1 = (rs_i zr 1)) ∨ (q = nI (fa_cnt (chg (rs_I zr 2) (rs_I zr 3) al1 ah1) 48) ∧ (∀ j, j < 48 → ¬ ah1 j < al1 j) ∧ (∀ s n, s < 48 → n < 48 → nbr s n → (al1 n).toInt - (rs_i zr 1).toInt ≤ (al1 s).toInt ∧ (ah1 s).toInt ≤ (ah1 n).toInt + (rs_i zr 1).toInt) ∧ fl1 = al1 ∧ fh1 = ah1 ∧ fa1 = (rs_i zr 1)))) ∧ gC v = (fa1, fl1, fh1)) := by
  have n47 : ∀ sa : Nat, sa < 48 → (0 : Int32) ≤ nI sa ∧ nI sa ≤ 47 := fun sa h => ⟨nI_pos' (by omega), show _ ≤ nI 47 from nI_le (by omega) (by omega)⟩
  have h48 : (48 : Int32).toInt = 48 := by decide
  rcases hr with ⟨hno, rfl, rfl⟩ | ⟨js', ek', hjs', c6', c8', c10', c12', _⟩ | ⟨js', ek', hjs', c6', c8', c10', c12', _⟩ | ⟨js', ek', hjs', c6', c8', c10', c12', _⟩ | ⟨js', ek', hjs', c6', c8', c10', c12', _⟩ | ⟨js', ek', hjs', c6', c8', c10', c12', _⟩ | ⟨js', ek', hjs', c6', c8', c10', c12', rfl, rfl⟩ | ⟨js', ek', hjs', c6', c8', c10', c42', c44', c45', c48', rfl, rfl⟩ | ⟨js', ek', hjs', c6', c8', c10', c42', c44', c45', ia', sa', nn2', eix', esv', en', hian', hsn', hia2', al', ah', cq', rfl, rfl, hle', fl1, fh1, al1, ah1, cq1, fa1, q, hq, rfl, rfl⟩ | ⟨js', ek', hjs', c6', c8', c10', c42', c44', c45', ia', sa', nn2', eix', esv', en', hian', hsn', hia2', i136', hlti136', al', ah', cq', hal', hah', c63', rfl, rfl⟩ | ⟨js', ek', hjs', c6', c8', c10', c42', c44', c45', c48', c51', rfl, rfl⟩ | ⟨js', ek', hjs', c6', c8', c10', c42', c44', c45', rfl, rfl⟩ | ⟨js', ek', hjs', c6', c8', c10', c42', c44', rfl, rfl⟩ | ⟨js', ek', hjs', c6', c8', c10', c42', rfl, rfl⟩ | ⟨js', ek', hjs', c6', c8', rfl, rfl⟩ | ⟨js', ek', hjs', c6', rfl, rfl⟩
  · exact Or.inl ⟨rfl, fun js ia sa nn e1 h1 e2 e3 e4 h2 h3 h4 h5 h6 h7 h8 h9 => hno js h1 e1⟩
  · exact absurd c10' (Int32.not_lt.mpr c12')
  · exact absurd c10' (Int32.not_lt.mpr c12')
  · exact absurd c10' (Int32.not_lt.mpr c12')
  · exact absurd c10' (Int32.not_lt.mpr c12')
  · exact absurd c10' (Int32.not_lt.mpr c12')
  · refine Or.inl ⟨rfl, fun js ia sa nn e1 h1 e2 e3 e4 h2 h3 h4 h5 h6 h7 h8 h9 => ?_⟩
    obtain rfl := nI4 h1 hjs' (e1.symm.trans ek')
    exact c12' h4
  · refine Or.inl ⟨rfl, fun js ia sa nn e1 h1 e2 e3 e4 h2 h3 h4 h5 h6 h7 h8 h9 => ?_⟩
    obtain rfl := nI4 h1 hjs' (e1.symm.trans ek')
    rw [e2, e4] at c48'
    exact c48' (hold_of h8 h6)
  · exact Or.inr ⟨js', ia', sa', nn2', ek', hjs', eix', esv', en', c6', c8', c44', c42', hian', hsn', hia2', hle', fl1, fh1, al1, ah1, fa1, _, hq, rfl⟩
  · refine Or.inl ⟨rfl, fun js ia sa nn e1 h1 e2 e3 e4 h2 h3 h4 h5 h6 h7 h8 h9 => ?_⟩
    obtain rfl := nI4 h1 hjs' (e1.symm.trans ek')
    obtain rfl : ia = ia' := (nI_eq (by omega) (by omega)).mp (e2.symm.trans eix')
    obtain rfl : nn = nn2' := (nI_eq (by omega) (by omega)).mp (e4.symm.trans en')
    exact c63' (h9 i136' hlti136')
  · refine Or.inl ⟨rfl, fun js ia sa nn e1 h1 e2 e3 e4 h2 h3 h4 h5 h6 h7 h8 h9 => ?_⟩
    rw [e3, e4] at c51'
    exact c51' (hold_of (by rw [h48]; omega) h7)
  · refine Or.inl ⟨rfl, fun js ia sa nn e1 h1 e2 e3 e4 h2 h3 h4 h5 h6 h7 h8 h9 => ?_⟩
    rw [e4] at c45'
    exact c45' (nI_pos' (by omega))
  · refine Or.inl ⟨rfl, fun js ia sa nn e1 h1 e2 e3 e4 h2 h3 h4 h5 h6 h7 h8 h9 => ?_⟩
    obtain rfl := nI4 h1 hjs' (e1.symm.trans ek')
    exact c44' h4
  · refine Or.inl ⟨rfl, fun js ia sa nn e1 h1 e2 e3 e4 h2 h3 h4 h5 h6 h7 h8 h9 => ?_⟩
    obtain rfl := nI4 h1 hjs' (e1.symm.trans ek')
    exact c42' h5
  · exact Or.inl ⟨rfl, fun js ia sa nn e1 h1 e2 e3 e4 h2 h3 h4 h5 h6 h7 h8 h9 => c8' h3⟩
  · refine Or.inl ⟨rfl, fun js ia sa nn e1 h1 e2 e3 e4 h2 h3 h4 h5 h6 h7 h8 h9 => ?_⟩
    rw [e3] at c6'
    exact c6' (n47 sa h2)
theorem stC_chart {zc u : CS} {zr v : RS2} {k ln ix n sv r r' : Int32} (hI : invC zc) (hB : relB zc zr) (h : relC zc zr) (hc : pC_chart zc k ln ix n sv r u) (hr : pR_chart zr k ln ix n sv r' v) : relC u v := by
  obtain ⟨a1, a2, a3, a4, a5, a6, a7, a8⟩ := relC_i h
  rcases chart_R hr with ⟨hg, hno⟩ | ⟨js', ia', sa', nn', ek', hjs', eix', esv', en', d1, d2, d3, d4, d5, d6, d7, d8, fl1', fh1', al1, ah1, fa1, q', hR, hg⟩
  · rcases hc with ⟨_, rfl, rfl⟩ | ⟨js, ek, hjs, c4, c6, c8, sa, en, esv, hs48, fl1, fh1, la1, tl, th, q, hC, rfl, rfl⟩ | ⟨js, ek, hjs, c4, c6, c8, nn, sa, en, esv, hsn, hs48, ia, eix, hian, hia2, hab, al, ah, rfl, rfl, fl1, fh1, la1, tl, th, q, hC, rfl, rfl⟩ | ⟨js, ek, hjs, c4, c6, c8, nn, sa, en, esv, hsn, hs48, ia, eix, hian, hia2, hab, rfl, rfl⟩ | ⟨js, ek, hjs, c4, c6, c8, rfl, rfl⟩ | ⟨js, ek, hjs, c4, c6, rfl, rfl⟩ | ⟨js, ek, hjs, c4, rfl, rfl⟩
    · exact relC_of rfl hg h
    · unfold relC; rw [hg]; exact nar_same (relC_i h) hC
    · exfalso
      have hs := relB_at hB hjs
      obtain ⟨f1, f2, -⟩ := cf0 (hI.2.2.2.2.2 js hjs).2 c4 c8
      obtain ⟨y1, y2, y3, y4, y5⟩ := rB_yes hs f2
      exact hno js ia sa nn ek hjs eix esv en hs48 c6 (by rw [← y3]; exact (fa_le _ _).mpr y4.1) (by rw [← y2]; exact f1) hian hsn (by rw [← y3]; exact hia2) (fun c hc => by
        have e : 48 * js + ia + c = 48 * js + (ia + c) := by omega
        rw [e, ← y5 (ia + c) (by omega)]; exact hab c hc)
    all_goals exact relC_of rfl hg h
  · have hs := relB_at hB hjs'
    have nn1 : ¬ cs_I zc 8 js' = -1 := fun q => (rB_neg hs).2.mp q d3
    obtain ⟨y1, y2, y3, y4, y5⟩ := rB_yes hs nn1
    have hcf : cfault (cs_I zc 8 js') (cs_I zc 9 js') ln ix n sv = 0 := by
      rw [eix', en', esv']
      have h47 : sa' < 48 := by
        have q := (fa_le _ _).mp d1.2
        rw [esv', nI_toInt (by omega)] at q
        have e47 : (47 : Int32).toInt = 47 := by decide
        omega
      exact cfault_0 nn1 (y2.trans d4) d5 (by rw [y3]; exact d7) d6 h47
    rcases hc with ⟨hno, _⟩ | ⟨js, ek, hjs, c4, c6, c8, sa, en, esv, hs48, fl1, fh1, la1, tl, th, q, hC, rfl, rfl⟩ | ⟨js, ek, hjs, c4, c6, c8, nn, sa, en, esv, hsn, hs48, ia, eix, hian, hia2, hab, al, ah, rfl, rfl, fl1, fh1, la1, tl, th, q, hC, rfl, rfl⟩ | ⟨js, ek, hjs, c4, c6, c8, nn, sa, en, esv, hsn, hs48, ia, eix, hian, hia2, ⟨c, hcn, hab⟩, _⟩ | ⟨js, ek, hjs, c4, c6, c8, _⟩ | ⟨js, ek, hjs, c4, c6, _⟩ | ⟨js, ek, hjs, c4, _⟩
    · exact absurd ek' (hno js' hjs')
    · obtain rfl : 0 = nn' := (nI_eq (by omega) (by omega)).mp (en.symm.trans en')
      unfold relC; rw [hg]
      exact (nar_both a2 a1 a5 a6 a3 a4 (relC_i h) hC hR).2
    · obtain rfl : js = js' := nI4 hjs hjs' (ek.symm.trans ek')
      obtain rfl : nn = nn' := (nI_eq (by omega) (by omega)).mp (en.symm.trans en')
      obtain rfl : sa = sa' := (nI_eq (by omega) (by omega)).mp (esv.symm.trans esv')
      obtain rfl : ia = ia' := (nI_eq (by omega) (by omega)).mp (eix.symm.trans eix')
      unfold relC; rw [hg]
      have hcell : ∀ c, c < nn → cs_S zc js (ia + c) = rs_I zr 9 (48 * js + ia + c) := fun c hc => by
        rw [y5 (ia + c) (by omega)]; congr 1; omega
      exact (nar_both a2 a1 (chL_rg a5 nn hab) (chH_rg a6 nn hab) (chL_cg a3 nn hsn hcell) (chH_cg a4 nn hsn hcell) (relC_i h) hC hR).2
    · exfalso
      obtain rfl : js = js' := nI4 hjs hjs' (ek.symm.trans ek')
      obtain rfl : nn = nn' := (nI_eq (by omega) (by omega)).mp (en.symm.trans en')
      obtain rfl : ia = ia' := (nI_eq (by omega) (by omega)).mp (eix.symm.trans eix')
      have e : 48 * js + ia + c = 48 * js + (ia + c) := by omega
      have q := d8 c hcn
      rw [e, ← y5 (ia + c) (by omega)] at q
      exact absurd hab (Int32.not_lt.mpr q)
    · obtain rfl : js = js' := nI4 hjs hjs' (ek.symm.trans ek')
      exact absurd hcf c8
    · exact absurd d2 c6
    · exact absurd d1 c4
/-! sums and greatest values over a rectangle, by rows and over all squares -/
def acc {α : Type} (op : α → Int32 → α) (a0 : α) (P : Nat → Bool) (g : Nat → Int32) : Nat → α
  | 0 => a0
  | i + 1 => if P i = true then op (acc op a0 P g i) (g i) else acc op a0 P g i
def rowa {α : Type} (op : α → Int32 → α) (g : Nat → Int32) (b : Nat) (a : α) : Nat → α
  | 0 => a
  | k + 1 => op (rowa op g b a k) (g (b + k))
def reca {α : Type} (op : α → Int32 → α) (a0 : α) (g : Nat → Int32) (xa w ya : Nat) : Nat → α
  | 0 => a0
  | i + 1 => rowa op g (8 * (ya + i) + xa) (reca op a0 g xa w ya i) (w + 1)
theorem acc_row {α : Type} {op : α → Int32 → α} {a0 : α} {P : Nat → Bool} {g : Nat → Int32} {xa w y : Nat} (hP : ∀ c, c < 8 → (P (8 * y + c) = true ↔ (xa ≤ c ∧ c ≤ xa + w))) : ∀ c, c ≤ 8 → acc op a0 P g (8 * y + c) = rowa op g (8 * y + xa) (acc op a0 P g (8 * y)) (min (c - xa) (w + 1))
  | 0, _ => by rw [show min (0 - xa) (w + 1) = 0 by omega]; rfl
  | c + 1, hc => by
    have ih := acc_row (op := op) (a0 := a0) (g := g) hP c (by omega)
    show (if P (8 * y + c) = true then op (acc op a0 P g (8 * y + c)) (g (8 * y + c)) else acc op a0 P g (8 * y + c)) = _
    by_cases h : xa ≤ c ∧ c ≤ xa + w
    · rw [if_pos ((hP c (by omega)).mpr h), ih, show min (c + 1 - xa) (w + 1) = (c - xa) + 1 by omega, show min (c - xa) (w + 1) = c - xa by omega, rowa]
      congr 2
      omega
    · rw [if_neg (fun q => h ((hP c (by omega)).mp q)), ih]
      congr 1
      omega
theorem acc_skip {α : Type} {op : α → Int32 → α} {a0 : α} {P : Nat → Bool} {g : Nat → Int32} {b : Nat} : ∀ c, (∀ k, k < c → ¬ P (b + k) = true) → acc op a0 P g (b + c) = acc op a0 P g b
  | 0, _ => rfl
  | c + 1, h => by
    show (if P (b + c) = true then op (acc op a0 P g (b + c)) (g (b + c)) else acc op a0 P g (b + c)) = _
    rw [if_neg (h c (by omega))]
    exact acc_skip c (fun k hk => h k (by omega))
theorem acc_rect {α : Type} {op : α → Int32 → α} {a0 : α} {P : Nat → Bool} {g : Nat → Int32} {xa w ya h : Nat} (hP : ∀ i, i < 48 → (P i = true ↔ ((xa ≤ i % 8 ∧ i % 8 ≤ xa + w) ∧ ya ≤ i / 8 ∧ i / 8 ≤ ya + h))) (hx : xa + w ≤ 7) (hy : ya + h ≤ 5) : acc op a0 P g 48 = reca op a0 g xa w ya (h + 1) := by
  have key : ∀ y, y ≤ 6 → acc op a0 P g (8 * y) = reca op a0 g xa w ya (min (y - ya) (h + 1)) := by
    intro y
    induction y with
    | zero => intro _; rw [show min (0 - ya) (h + 1) = 0 by omega]; rfl
    | succ y ih =>
      intro hy6
      have ih := ih (by omega)
      rw [show 8 * (y + 1) = 8 * y + 8 by omega]
      by_cases hr : ya ≤ y ∧ y ≤ ya + h
      · rw [acc_row (xa := xa) (w := w) (fun c hc => by
            rw [hP _ (by omega), show (8 * y + c) % 8 = c by omega, show (8 * y + c) / 8 = y by omega]
            exact ⟨fun q => q.1, fun q => ⟨q, hr⟩⟩) 8 (Nat.le_refl _), ih, show min (8 - xa) (w + 1) = w + 1 by omega, show min (y + 1 - ya) (h + 1) = (y - ya) + 1 by omega, show min (y - ya) (h + 1) = y - ya by omega, reca, show ya + (y - ya) = y by omega]
      · rw [acc_skip 8 (fun k hk q => by
            have q := (hP _ (by omega)).mp q
            rw [show (8 * y + k) / 8 = y by omega] at q
            exact hr q.2), ih]
        congr 1
        omega
  have e := key 6 (Nat.le_refl _)
  rw [show min (6 - ya) (h + 1) = h + 1 by omega] at e
  exact e
theorem acc_cg {α : Type} {op : α → Int32 → α} {a0 : α} {P Q : Nat → Bool} {g g' : Nat → Int32} : ∀ n, (∀ i, i < n → P i = Q i ∧ g i = g' i) → acc op a0 P g n = acc op a0 Q g' n
  | 0, _ => rfl
  | n + 1, h => by rw [acc, acc, acc_cg n (fun i hi => h i (by omega)), (h n (by omega)).1, (h n (by omega)).2]
def opS (a : Int64) (x : Int32) : Int64 := a + x.toInt64
def opM (a x : Int32) : Int32 := if a < x then x else a
theorem fsum_acc {P : Nat → Bool} {g : Nat → Int32} : ∀ n, fsum P g n = acc opS 0 P g n
  | 0 => rfl
  | n + 1 => by
    rw [fsum, acc, fsum_acc n]
    by_cases h : P n = true
    · rw [if_pos h, if_pos h]; rfl
    · rw [if_neg h, if_neg h]; exact Int64.add_zero _
theorem smax_acc {P : Nat → Bool} {g : Nat → Int32} : ∀ n, smax P g n = acc opM 0 P g n
  | 0 => rfl
  | n + 1 => by
    rw [smax, acc, smax_acc n]
    by_cases h : P n = true
    · rw [if_pos h]
      by_cases q : acc opM 0 P g n < g n
      · rw [if_pos ⟨h, q⟩, opM, if_pos q]
      · rw [if_neg (fun z => q z.2), opM, if_neg q]
    · rw [if_neg (fun z => h z.1), if_neg h]
theorem racc_row {g : Nat → Int32} {b : Nat} {a : Int64} : ∀ n, racc g b a n = rowa opS g b a n
  | 0 => rfl
  | n + 1 => by rw [racc, rowa, racc_row n]; rfl
theorem pacc_rec {g : Nat → Int32} {xa w ya : Nat} : ∀ n, pacc g xa w ya n = reca opS 0 g xa w ya n
  | 0 => rfl
  | n + 1 => by rw [pacc, reca, racc_row, pacc_rec n]
theorem gacc_row {g : Nat → Int32} {b : Nat} {a : Int32} : ∀ n, gacc g b a n = rowa opM g b a n
  | 0 => rfl
  | n + 1 => by rw [gacc, rowa, gacc_row n]; rfl
theorem pmax_rec {g : Nat → Int32} {xa w ya : Nat} : ∀ n, pmax g xa w ya n = reca opM 0 g xa w ya n
  | 0 => rfl
  | n + 1 => by rw [pmax, reca, gacc_row, pmax_rec n]
theorem onB_iff {f0 f1 f2 f3 : Nat → Int32} {p i xa w ya h : Nat} (e0 : f0 p = nI xa) (e1 : f1 p = nI (xa + w)) (e2 : f2 p = nI ya) (e3 : f3 p = nI (ya + h)) (hx : xa + w ≤ 7) (hy : ya + h ≤ 5) (hi : i < 48) : onB f0 f1 f2 f3 p i = true ↔ ((xa ≤ i % 8 ∧ i % 8 ≤ xa + w) ∧ ya ≤ i / 8 ∧ i / 8 ≤ ya + h) := by
  rw [onB, decide_eq_true_iff, e0, e1, e2, e3, nI_leI (by omega) (by omega), nI_leI (by omega) (by omega), nI_leI (by omega) (by omega), nI_leI (by omega) (by omega)]
/-- the class's rectangle of pitch p against the reference's squares of it -/
theorem rect_sum {zc : CS} {f0 f1 f2 f3 : Nat → Int32} {p : Nat} {g g' : Nat → Int32} (hI : invC zc) (hp : p < cs_n zc 0) (e0 : cs_I zc 11 p = f0 p) (e1 : cs_I zc 13 p = f1 p) (e2 : cs_I zc 12 p = f2 p) (e3 : cs_I zc 14 p = f3 p) (hg : ∀ j, j < 48 → g j = g' j) : pacc g (rXa zc p) (rWa zc p) (rYa zc p) (rHa zc p + 1) = fsum (onB f0 f1 f2 f3 p) g' 48 ∧ pmax g (rXa zc p) (rWa zc p) (rYa zc p) (rHa zc p + 1) = smax (onB f0 f1 f2 f3 p) g' 48 := by
  have hr := hI.2.1 p hp
  obtain ⟨xa, wa, ya, ha, q0, q1, q2, q3, hx, hy⟩ := rect ⟨hr.1, hr.2.1⟩
  have x0 : rXa zc p = xa := by rw [rXa, q0, nI_clamp (by omega)]
  have x1 : rWa zc p = wa := by rw [rWa, q1, q0, nI_clamp (by omega), nI_clamp (by omega)]; omega
  have x2 : rYa zc p = ya := by rw [rYa, q2, nI_clamp (by omega)]
  have x3 : rHa zc p = ha := by rw [rHa, q3, q2, nI_clamp (by omega), nI_clamp (by omega)]; omega
  have hP : ∀ i, i < 48 → (onB f0 f1 f2 f3 p i = true ↔ ((xa ≤ i % 8 ∧ i % 8 ≤ xa + wa) ∧ ya ≤ i / 8 ∧ i / 8 ≤ ya + ha)) := fun i hi => onB_iff (e0.symm.trans q0) (e1.symm.trans q1) (e2.symm.trans q2) (e3.symm.trans q3) hx hy hi
  rw [x0, x1, x2, x3, pacc_rec, pmax_rec, fsum_acc, smax_acc, ← acc_rect hP hx hy, ← acc_rect hP hx hy]
  exact ⟨acc_cg 48 (fun i hi => ⟨rfl, hg i hi⟩), acc_cg 48 (fun i hi => ⟨rfl, hg i hi⟩)⟩
/-! layer D: pitches, gangs, takes, parcels, the auction -/
def unl (zr : RS2) (p t : Nat) : Prop := rs_I zr 26 t = nI p ∧ rs_I zr 28 t = 0
def dN (zc : CS) (zr : RS2) : Prop := cs_n zc 0 = rs_n zr 0 ∧ cs_n zc 1 = rs_n zr 1 ∧ cs_n zc 2 = rs_n zr 2 ∧ cs_n zc 3 = rs_n zr 3
def dP (zc : CS) (zr : RS2) : Prop := ∀ p, p < rs_n zr 0 → (cs_I zc 11 p = rs_I zr 12 p ∧ cs_I zc 12 p = rs_I zr 13 p ∧ cs_I zc 13 p = rs_I zr 14 p ∧ cs_I zc 14 p = rs_I zr 15 p ∧ cs_I zc 15 p = rs_I zr 16 p) ∧ (1 ≤ (rs_I zr 16 p).toInt ∧ (rs_I zr 16 p).toInt ≤ 100) ∧ cs_I zc 16 p = nI (fa_cnt (fun t => decide (rs_I zr 26 t = nI p)) (rs_n zr 2)) ∧ ((cs_N zc 0 p = 0 ∧ ∀ t, t < rs_n zr 2 → ¬ unl zr p t) ∨ ∃ t, t < rs_n zr 2 ∧ cs_N zc 0 p = t + 1 ∧ unl zr p t ∧ ∀ t', t' < rs_n zr 2 → unl zr p t' → t' = t)
def dG (zc : CS) (zr : RS2) : Prop := (∀ g, g < rs_n zr 1 → cs_I zc 21 g = nI (fa_cnt (fun t => decide (rs_I zr 25 t = nI g)) (rs_n zr 2)) ∧ cs_I zc 22 g = nI (fa_cnt (fun t => decide (rs_I zr 25 t = nI g ∧ rs_I zr 28 t = 0)) (rs_n zr 2)) ∧ cs_L zc 0 g = rs_L zr 19 g) ∧ ∀ g, rs_n zr 1 ≤ g → rs_L zr 19 g = 0
def dT1 (zc : CS) (zr : RS2) (t : Nat) : Prop := (rs_I zr 25 t = nI (cs_N zc 2 t) ∧ rs_I zr 26 t = nI (cs_N zc 3 t) ∧ cs_I zc 31 t = rs_I zr 27 t ∧ cs_I zc 33 t = rs_I zr 28 t ∧ cs_I zc 32 t = nI (fa_cnt (fun k => decide (rs_I zr 35 k = nI t)) (rs_n zr 3))) ∧ (cs_L zc 1 t = rs_L zr 29 t ∧ cs_L zc 2 t = rs_L zr 30 t ∧ cs_L zc 3 t = wsum (rs_I zr 35) (rs_I zr 36) (rs_I zr 37) (nI t) (rs_n zr 3) ∧ cs_L zc 4 t = rs_L zr 31 t ∧ cs_L zc 5 t = rs_L zr 32 t ∧ cs_L zc 6 t = rs_L zr 33 t) ∧ (0 ≤ (rs_L zr 29 t).toInt ∧ (rs_L zr 29 t).toInt ≤ 5000000 ∧ 0 ≤ (rs_L zr 30 t).toInt ∧ (rs_L zr 30 t).toInt ≤ 5000000)
def dT (zc : CS) (zr : RS2) : Prop := (∀ t, t < rs_n zr 2 → dT1 zc zr t) ∧ ∀ t, rs_n zr 2 ≤ t → rs_I zr 28 t = 0 ∧ rs_L zr 31 t = 0 ∧ rs_L zr 32 t = 0 ∧ rs_L zr 33 t = 0
def dK (zc : CS) (zr : RS2) : Prop := ∀ k, k < rs_n zr 3 → cs_I zc 40 k = rs_I zr 37 k ∧ ∃ t, t < rs_n zr 2 ∧ rs_I zr 35 k = nI t ∧ cs_N zc 4 k = cs_N zc 3 t
def dB (zc : CS) (zr : RS2) : Prop := (cs_n zc 5 = 0 ∧ rs_i zr 22 = 0 ∧ rs_i zr 23 = -1) ∨ (¬ rs_i zr 22 = 0 ∧ ∃ g, g < rs_n zr 1 ∧ cs_n zc 5 = g + 1 ∧ rs_i zr 23 = nI g)
def dA (zc : CS) (zr : RS2) : Prop := (cs_n zc 4 = 0 ∧ rs_i zr 20 = -9) ∨ ∃ p, p < rs_n zr 0 ∧ cs_n zc 4 = p + 1 ∧ rs_i zr 20 = nI p ∧ cs_i zc 3 = rs_i zr 21 ∧ cs_i zc 4 = rs_i zr 22 ∧ (1 ≤ (rs_i zr 21).toInt ∧ (rs_i zr 21).toInt ≤ 240) ∧ (0 ≤ (rs_i zr 22).toInt ∧ (rs_i zr 22).toInt ≤ 20) ∧ cs_N zc 0 p = 0 ∧ dB zc zr
def relD (zc : CS) (zr : RS2) : Prop := dN zc zr ∧ dP zc zr ∧ dG zc zr ∧ dT zc zr ∧ dK zc zr ∧ dA zc zr
def fD (z : CS) : (Nat → Nat) × (Nat → Nat → Int64) × (Nat → Nat → Nat) × Int32 × Int32 × (Nat → Int32) × (Nat → Int32) × (Nat → Int32) × (Nat → Int32) × (Nat → Int32) × (Nat → Int32) × (Nat → Int32) × (Nat → Int32) × (Nat → Int32) × (Nat → Int32) × (Nat → Int32) × (Nat → Int32) := (cs_n z, cs_L z, cs_N z, cs_i z 3, cs_i z 4, cs_I z 11, cs_I z 12, cs_I z 13, cs_I z 14, cs_I z 15, cs_I z 16, cs_I z 21, cs_I z 22, cs_I z 31, cs_I z 32, cs_I z 33, cs_I z 40)
def gD (z : RS2) : (Nat → Nat) × (Nat → Nat → Int64) × Int32 × Int32 × Int32 × Int32 × (Nat → Int32) × (Nat → Int32) × (Nat → Int32) × (Nat → Int32) × (Nat → Int32) × (Nat → Int32) × (Nat → Int32) × (Nat → Int32) × (Nat → Int32) × (Nat → Int32) × (Nat → Int32) × (Nat → Int32) := (rs_n z, rs_L z, rs_i z 20, rs_i z 21, rs_i z 22, rs_i z 23, rs_I z 12, rs_I z 13, rs_I z 14, rs_I z 15, rs_I z 16, rs_I z 25, rs_I z 26, rs_I z 27, rs_I z 28, rs_I z 35, rs_I z 36, rs_I z 37)
theorem relD_of {zc u : CS} {zr v : RS2} (h1 : fD u = fD zc) (h2 : gD v = gD zr) (h : relD zc zr) : relD u v := by
  simp only [fD, Prod.mk.injEq] at h1
  simp only [gD, Prod.mk.injEq] at h2
  obtain ⟨a1, a2, a3, a4, a5, a6, a7, a8, a9, a10, a11, a12, a13, a14, a15, a16, a17⟩ := h1
  obtain ⟨b1, b2, b3, b4, b5, b6, b7, b8, b9, b10, b11, b12, b13, b14, b15, b16, b17, b18⟩ := h2
  simp only [relD, dN, dP, dG, dT, dT1, dK, dA, dB, unl, a1, a2, a3, a4, a5, a6, a7, a8, a9, a10, a11, a12, a13, a14, a15, a16, a17, b1, b2, b3, b4, b5, b6, b7, b8, b9, b10, b11, b12, b13, b14, b15, b16, b17, b18]
  exact h
theorem relD_0 {x : Nat → Nat → Nat} : relD (z0C x) z0R :=
  ⟨⟨rfl, rfl, rfl, rfl⟩, fun p hp => absurd hp (Nat.not_lt_zero p), ⟨fun p hp => absurd hp (Nat.not_lt_zero p), fun _ _ => rfl⟩, ⟨fun p hp => absurd hp (Nat.not_lt_zero p), fun _ _ => ⟨rfl, rfl, rfl, rfl⟩⟩, fun p hp => absurd hp (Nat.not_lt_zero p), Or.inl ⟨rfl, rfl⟩⟩
theorem frDC_trace {zc u : CS} {r : Int32} (h : pC_trace zc r u) : fD u = fD zc := by
  rcases h with ⟨_, rfl⟩
  all_goals rfl
theorem frDR_trace {zr u : RS2} {r : Int32} (h : pR_trace zr r u) : gD u = gD zr := by
  rcases h with ⟨_, rfl⟩
  all_goals rfl
theorem frDC_fault {zc u : CS} {r : Int32} (h : pC_fault zc r u) : fD u = fD zc := by
  rcases h with ⟨_, rfl⟩
  all_goals rfl
theorem frDR_fault {zr u : RS2} {r : Int32} (h : pR_fault zr r u) : gD u = gD zr := by
  rcases h with ⟨_, rfl⟩
  all_goals rfl
theorem frDC_told {zc u : CS} {a0 : Int32} {r : Int32} (h : pC_told zc a0 r u) : fD u = fD zc := by
  rcases h with ⟨_, _, _, rfl⟩ | ⟨_, _, _, rfl⟩ | ⟨_, _, _, rfl⟩ | ⟨_, _, _, rfl⟩ | ⟨_, _, _, rfl⟩ | ⟨_, _, _, rfl⟩ | ⟨_, _, _, rfl⟩ | ⟨_, _, _, rfl⟩ | ⟨_, _, _, _, _, _, _, _, _, _, rfl⟩ | ⟨_, _, _, rfl⟩ | ⟨_, _, _, rfl⟩ | ⟨_, _, _, rfl⟩ | ⟨_, _, _, rfl⟩ | ⟨_, _, _, rfl⟩ | ⟨_, _, _, rfl⟩ | ⟨_, _, _, rfl⟩ | ⟨_, _, _, rfl⟩ | ⟨_, _, _, _, _, _, _, _, _, _, rfl⟩
  all_goals rfl
theorem frDR_told {zr u : RS2} {a0 : Int32} {r : Int32} (h : pR_told zr a0 r u) : gD u = gD zr := by
  rcases h with ⟨_, _, rfl⟩ | ⟨_, _, rfl⟩ | ⟨_, _, rfl⟩ | ⟨_, _, rfl⟩ | ⟨_, _, rfl⟩ | ⟨_, _, _, rfl⟩ | ⟨_, _, _, rfl⟩ | ⟨_, _, rfl⟩ | ⟨_, _, _, rfl⟩ | ⟨_, _, _, rfl⟩ | ⟨_, _, _, _, _, _, _, _, _, rfl⟩
  all_goals rfl
theorem frDC_good {zc u : CS} {x : Int32} {y : Int32} {wh : Int32} {r : Int32} (h : pC_good zc x y wh r u) : fD u = fD zc := by
  rcases h with ⟨_, _, _, _, rfl⟩ | ⟨_, _, _, _, rfl⟩ | ⟨_, _, _, rfl⟩ | ⟨_, _, rfl⟩
  all_goals rfl
theorem frDR_good {zr u : RS2} {x : Int32} {y : Int32} {wh : Int32} {r : Int32} (h : pR_good zr x y wh r u) : gD u = gD zr := by
  rcases h with ⟨_, _, _, _, rfl⟩ | ⟨_, _, _, _, rfl⟩ | ⟨_, _, _, rfl⟩ | ⟨_, _, rfl⟩
  all_goals rfl
theorem frDC_money {zc u : CS} {t : Int32} {wh : Int32} {r : Int64} (h : pC_money zc t wh r u) : fD u = fD zc := by
  rcases h with ⟨_, _, rfl⟩ | ⟨_, _, _, _, _, rfl⟩ | ⟨_, _, _, _, _, rfl⟩ | ⟨_, _, _, _, _, rfl⟩ | ⟨_, _, _, _, _, rfl⟩ | ⟨_, _, _, _, _, rfl⟩ | ⟨_, _, _, _, _, rfl⟩ | ⟨_, _, _, _, _, _, _, _, _, _, rfl⟩
  all_goals rfl
theorem frDR_money {zr u : RS2} {t : Int32} {wh : Int32} {r : Int64} (h : pR_money zr t wh r u) : gD u = gD zr := by
  rcases h with ⟨_, _, rfl⟩ | ⟨_, _, _, _, _, rfl⟩ | ⟨_, _, _, _, _, rfl⟩ | ⟨_, _, _, _, _, rfl⟩ | ⟨_, _, _, _, _, rfl⟩ | ⟨_, _, _, _, _, rfl⟩ | ⟨_, _, _, _, _, rfl⟩ | ⟨_, _, _, _, _, _, _, _, _, _, rfl⟩
  all_goals rfl
theorem frDC_debt {zc u : CS} {g : Int32} {r : Int64} (h : pC_debt zc g r u) : fD u = fD zc := by
  rcases h with ⟨_, _, rfl⟩ | ⟨_, _, _, _, _, rfl⟩ | ⟨_, _, _, _, _, rfl⟩ | ⟨_, _, _, _, _, rfl⟩
  all_goals rfl
theorem frDR_debt {zr u : RS2} {g : Int32} {r : Int64} (h : pR_debt zr g r u) : gD u = gD zr := by
  rcases h with ⟨_, _, rfl⟩ | ⟨_, _, _, _, rfl⟩
  all_goals rfl
theorem frDC_tell {zc u : CS} {g : Int32} {r : Int32} (h : pC_tell zc g r u) : fD u = fD zc := by
  rcases h with ⟨_, _, rfl⟩ | ⟨_, _, _, _, _, rfl⟩ | ⟨_, _, _, _, _, rfl⟩ | ⟨_, _, _, _, _, rfl⟩
  all_goals rfl
theorem frDR_tell {zr u : RS2} {g : Int32} {r : Int32} (h : pR_tell zr g r u) : gD u = gD zr := by
  rcases h with ⟨_, _, rfl⟩ | ⟨_, _, _, _, _, _, _, rfl⟩ | ⟨_, _, _, _, _, _, _, rfl⟩ | ⟨_, _, _, _, _, _, rfl⟩ | ⟨_, _, _, _, _, _, _, _, rfl⟩ | ⟨_, _, _, _, _, _, _, _, rfl⟩ | ⟨_, _, _, _, _, _, _, rfl⟩ | ⟨_, _, _, _, _, _, _, _, rfl⟩ | ⟨_, _, _, _, _, _, _, _, rfl⟩ | ⟨_, _, _, _, _, _, _, rfl⟩
  all_goals rfl
theorem frDC_greet {zc u : CS} {g : Int32} {r : Int32} (h : pC_greet zc g r u) : fD u = fD zc := by
  rcases h with ⟨_, _, rfl⟩ | ⟨_, _, _, _, _, rfl⟩ | ⟨_, _, _, _, _, rfl⟩ | ⟨_, _, _, _, _, rfl⟩
  all_goals rfl
theorem frDR_greet {zr u : RS2} {g : Int32} {r : Int32} (h : pR_greet zr g r u) : gD u = gD zr := by
  rcases h with ⟨_, _, rfl⟩ | ⟨_, _, _, _, _, _, _, rfl⟩ | ⟨_, _, _, _, _, _, _, rfl⟩ | ⟨_, _, _, _, _, _, _, rfl⟩ | ⟨_, _, _, _, _, _, _, rfl⟩ | ⟨_, _, _, _, _, rfl⟩
  all_goals rfl
theorem frDC_as {zc u : CS} {g : Int32} {k : Int32} {r : Int32} (h : pC_as zc g k r u) : fD u = fD zc := by
  rcases h with ⟨_, _, rfl⟩ | ⟨_, _, _, _, _, _, _, rfl⟩ | ⟨_, _, _, _, _, _, _, rfl⟩ | ⟨_, _, _, _, _, _, rfl⟩ | ⟨_, _, _, _, _, _, _, rfl⟩ | ⟨_, _, _, _, _, _, _, rfl⟩ | ⟨_, _, _, _, _, _, rfl⟩ | ⟨_, _, _, _, _, _, _, rfl⟩ | ⟨_, _, _, _, _, _, _, rfl⟩ | ⟨_, _, _, _, _, _, rfl⟩
  all_goals rfl
theorem frDR_as {zr u : RS2} {g : Int32} {k : Int32} {r : Int32} (h : pR_as zr g k r u) : gD u = gD zr := by
  rcases h with ⟨_, _, rfl⟩ | ⟨_, _, _, _, _, _, rfl⟩ | ⟨_, _, _, _, _, _, rfl⟩ | ⟨_, _, _, _, _, rfl⟩
  all_goals rfl
theorem frDC_taken {zc u : CS} {t : Int32} {wh : Int32} {r : Int32} (h : pC_taken zc t wh r u) : fD u = fD zc := by
  rcases h with ⟨_, _, rfl⟩ | ⟨_, _, _, _, _, _, rfl⟩ | ⟨_, _, _, _, _, _, rfl⟩ | ⟨_, _, _, _, _, _, rfl⟩ | ⟨_, _, _, _, _, _, _, rfl⟩ | ⟨_, _, _, _, _, _, _, rfl⟩ | ⟨_, _, _, _, _, _, rfl⟩ | ⟨_, _, _, _, _, _, _, _, _, _, rfl⟩ | ⟨_, _, _, _, _, _, rfl⟩ | ⟨_, _, _, _, _, _, rfl⟩ | ⟨_, _, _, _, _, _, rfl⟩ | ⟨_, _, _, _, _, _, _, rfl⟩ | ⟨_, _, _, _, _, _, _, rfl⟩ | ⟨_, _, _, _, _, _, rfl⟩ | ⟨_, _, _, _, _, _, _, _, _, _, rfl⟩ | ⟨_, _, _, _, _, _, rfl⟩ | ⟨_, _, _, _, _, _, rfl⟩ | ⟨_, _, _, _, _, _, rfl⟩ | ⟨_, _, _, _, _, _, _, rfl⟩ | ⟨_, _, _, _, _, _, _, rfl⟩ | ⟨_, _, _, _, _, _, rfl⟩ | ⟨_, _, _, _, _, _, _, _, _, _, rfl⟩
  all_goals rfl
theorem frDR_taken {zr u : RS2} {t : Int32} {wh : Int32} {r : Int32} (h : pR_taken zr t wh r u) : gD u = gD zr := by
  rcases h with ⟨_, _, rfl⟩ | ⟨_, _, _, _, _, rfl⟩ | ⟨_, _, _, _, _, rfl⟩ | ⟨_, _, _, _, _, rfl⟩ | ⟨_, _, _, _, _, _, rfl⟩ | ⟨_, _, _, _, _, _, rfl⟩ | ⟨_, _, _, _, _, rfl⟩ | ⟨_, _, _, _, _, _, _, _, _, rfl⟩
  all_goals rfl
theorem frDC_about {zc u : CS} {pp : Int32} {wh : Int32} {r : Int32} (h : pC_about zc pp wh r u) : fD u = fD zc := by
  rcases h with ⟨_, _, rfl⟩ | ⟨_, _, _, _, _, _, rfl⟩ | ⟨_, _, _, _, _, _, rfl⟩ | ⟨_, _, _, _, _, _, rfl⟩ | ⟨_, _, _, _, _, _, rfl⟩ | ⟨_, _, _, _, _, _, rfl⟩ | ⟨_, _, _, _, _, _, rfl⟩ | ⟨_, _, _, _, _, _, rfl⟩ | ⟨_, _, _, _, _, _, _, _, _, _, _, _, rfl⟩ | ⟨_, _, _, _, _, _, rfl⟩ | ⟨_, _, _, _, _, _, rfl⟩ | ⟨_, _, _, _, _, _, rfl⟩ | ⟨_, _, _, _, _, _, rfl⟩ | ⟨_, _, _, _, _, _, rfl⟩ | ⟨_, _, _, _, _, _, rfl⟩ | ⟨_, _, _, _, _, _, rfl⟩ | ⟨_, _, _, _, _, _, _, _, _, _, _, _, rfl⟩
  all_goals rfl
theorem frDR_about {zr u : RS2} {pp : Int32} {wh : Int32} {r : Int32} (h : pR_about zr pp wh r u) : gD u = gD zr := by
  rcases h with ⟨_, _, rfl⟩ | ⟨_, _, _, _, _, rfl⟩ | ⟨_, _, _, _, _, rfl⟩ | ⟨_, _, _, _, _, rfl⟩ | ⟨_, _, _, _, _, rfl⟩ | ⟨_, _, _, _, _, rfl⟩ | ⟨_, _, _, _, _, _, _, rfl⟩ | ⟨_, _, _, _, _, rfl⟩ | ⟨_, _, _, _, _, _, _, _, _, _, _, rfl⟩
  all_goals rfl
theorem frDC_foretold {zc u : CS} {pp : Int32} {wh : Int32} {r : Int64} (h : pC_foretold zc pp wh r u) : fD u = fD zc := by
  rcases h with ⟨_, _, rfl⟩ | ⟨_, _, _, _, _, _, rfl⟩ | ⟨_, _, _, _, _, _, rfl⟩ | ⟨_, _, _, _, _, rfl⟩
  all_goals rfl
theorem frDR_foretold {zr u : RS2} {pp : Int32} {wh : Int32} {r : Int64} (h : pR_foretold zr pp wh r u) : gD u = gD zr := by
  rcases h with ⟨_, _, rfl⟩ | ⟨_, _, _, _, _, _, rfl⟩ | ⟨_, _, _, _, _, _, rfl⟩ | ⟨_, _, _, _, _, rfl⟩
  all_goals rfl
theorem frDC_sheet {zc u : CS} {k : Int32} {ln : Int32} {n : Int32} {r : Int32} (h : pC_sheet zc k ln n r u) : fD u = fD zc := by
  rcases h with ⟨_, _, rfl⟩ | ⟨_, _, _, _, _, rfl⟩ | ⟨_, _, _, _, _, _, _, rfl⟩ | ⟨_, _, _, _, _, _, _, rfl⟩ | ⟨_, _, _, _, _, _, rfl⟩
  all_goals rfl
theorem frDR_sheet {zr u : RS2} {k : Int32} {ln : Int32} {n : Int32} {r : Int32} (h : pR_sheet zr k ln n r u) : gD u = gD zr := by
  rcases h with ⟨_, _, rfl⟩ | ⟨_, _, _, _, _, rfl⟩ | ⟨_, _, _, _, _, _, _, _, _, _, rfl⟩ | ⟨_, _, _, _, _, _, _, rfl⟩ | ⟨_, _, _, _, _, _, rfl⟩
  all_goals rfl
theorem frDC_lose {zc u : CS} {k : Int32} {r : Int32} (h : pC_lose zc k r u) : fD u = fD zc := by
  rcases h with ⟨_, _, rfl⟩ | ⟨_, _, _, _, _, rfl⟩ | ⟨_, _, _, _, _, rfl⟩
  all_goals rfl
theorem frDR_lose {zr u : RS2} {k : Int32} {r : Int32} (h : pR_lose zr k r u) : gD u = gD zr := by
  rcases h with ⟨_, _, rfl⟩ | ⟨_, _, _, _, _, rfl⟩ | ⟨_, _, _, _, _, rfl⟩
  all_goals rfl
theorem frDC_put {zc u : CS} {k : Int32} {ix : Int32} {v : Int32} {r : Int32} (h : pC_put zc k ix v r u) : fD u = fD zc := by
  rcases h with ⟨_, _, rfl⟩ | ⟨_, _, _, _, _, _, rfl⟩ | ⟨_, _, _, _, _, _, rfl⟩ | ⟨_, _, _, _, _, rfl⟩
  all_goals rfl
theorem frDR_put {zr u : RS2} {k : Int32} {i : Int32} {v : Int32} {r : Int32} (h : pR_put zr k i v r u) : gD u = gD zr := by
  rcases h with ⟨_, _, rfl⟩ | ⟨_, _, _, _, _, _, _, _, _, _, rfl⟩ | ⟨_, _, _, _, _, _, _, _, _, _, rfl⟩ | ⟨_, _, _, _, _, _, _, _, _, rfl⟩ | ⟨_, _, _, _, _, rfl⟩
  all_goals rfl
theorem frDC_cell {zc u : CS} {k : Int32} {ix : Int32} {ln : Int32} {r : Int64} (h : pC_cell zc k ix ln r u) : fD u = fD zc := by
  rcases h with ⟨_, _, rfl⟩ | ⟨_, _, _, _, _, _, rfl⟩ | ⟨_, _, _, _, _, _, _, _, rfl⟩ | ⟨_, _, _, _, _, _, _, _, rfl⟩ | ⟨_, _, _, _, _, _, _, rfl⟩ | ⟨_, _, _, _, _, rfl⟩
  all_goals rfl
theorem frDR_cell {zr u : RS2} {k : Int32} {i : Int32} {ln : Int32} {r : Int64} (h : pR_cell zr k i ln r u) : gD u = gD zr := by
  rcases h with ⟨_, _, rfl⟩ | ⟨_, _, _, _, _, _, _, _, _, _, rfl⟩ | ⟨_, _, _, _, _, _, _, rfl⟩ | ⟨_, _, _, _, _, _, _, _, _, _, _, rfl⟩ | ⟨_, _, _, _, _, _, _, _, rfl⟩ | ⟨_, _, _, _, _, _, _, rfl⟩ | ⟨_, _, _, _, _, rfl⟩
  all_goals rfl
theorem frDC_find {zc u : CS} {x : Int32} {y : Int32} {lo : Int32} {hi : Int32} {r : Int32} (h : pC_find zc x y lo hi r u) : fD u = fD zc := by
  rcases h with ⟨_, _, _, rfl⟩ | ⟨_, _, _, _, rfl⟩ | ⟨_, _, _, _, _, _, _, _, _, _, _, _, _, _, _, rfl⟩ | ⟨_, _, _, _, _, rfl⟩ | ⟨_, _, rfl⟩
  all_goals rfl
theorem frDR_find {zr u : RS2} {x : Int32} {y : Int32} {lo : Int32} {hi : Int32} {r : Int32} (h : pR_find zr x y lo hi r u) : gD u = gD zr := by
  rcases h with ⟨_, _, _, rfl⟩ | ⟨_, _, _, _, _, _, _, _, _, _, _, _, _, _, _, _, _, _, _, rfl⟩ | ⟨_, _, _, _, rfl⟩ | ⟨_, _, rfl⟩
  all_goals rfl
theorem frDC_rise {zc u : CS} {dd : Int32} {r : Int32} (h : pC_rise zc dd r u) : fD u = fD zc := by
  rcases h with ⟨_, _, _, _, _, _, _, _, _, _, rfl⟩ | ⟨_, _, _, rfl⟩ | ⟨_, _, rfl⟩
  all_goals rfl
theorem frDR_rise {zr u : RS2} {dd : Int32} {r : Int32} (h : pR_rise zr dd r u) : gD u = gD zr := by
  rcases h with ⟨_, _, _, _, _, _, _, _, _, _, _, rfl⟩ | ⟨_, _, _, rfl⟩ | ⟨_, _, rfl⟩
  all_goals rfl
theorem frDC_suspects {zc u : CS} {r : Int32} (h : pC_suspects zc r u) : fD u = fD zc := by
  rcases h with ⟨_, rfl⟩
  all_goals rfl
theorem frDR_suspects {zr u : RS2} {r : Int32} (h : pR_suspects zr r u) : gD u = gD zr := by
  rcases h with ⟨_, rfl⟩
  all_goals rfl
theorem frDC_suspect {zc u : CS} {ix : Int32} {r : Int32} (h : pC_suspect zc ix r u) : fD u = fD zc := by
  rcases h with ⟨_, _, rfl⟩ | ⟨_, _, _, _, _, rfl⟩
  all_goals rfl
theorem frDR_suspect {zr u : RS2} {ix : Int32} {r : Int32} (h : pR_suspect zr ix r u) : gD u = gD zr := by
  rcases h with ⟨_, _, rfl⟩ | ⟨_, _, _, _, _, rfl⟩
  all_goals rfl
theorem frDC_skill {zc u : CS} {g : Int32} {wh : Int32} {r : Int64} (h : pC_skill zc g wh r u) : fD u = fD zc := by
  rcases h with ⟨_, _, rfl⟩ | ⟨_, _, _, _, _, _, _, _, _, rfl⟩ | ⟨_, _, _, _, _, _, _, _, _, rfl⟩ | ⟨_, _, _, _, _, _, _, _, _, rfl⟩ | ⟨_, _, _, _, _, _, _, _, _, rfl⟩ | ⟨_, _, _, _, _, rfl⟩
  all_goals rfl
theorem frDR_skill {zr u : RS2} {g : Int32} {wh : Int32} {r : Int64} (h : pR_skill zr g wh r u) : gD u = gD zr := by
  rcases h with ⟨_, _, rfl⟩ | ⟨_, _, _, _, _, _, _, _, _, rfl⟩ | ⟨_, _, _, _, _, _, _, _, _, rfl⟩ | ⟨_, _, _, _, _, _, rfl⟩ | ⟨_, _, _, _, _, rfl⟩
  all_goals rfl
theorem frDC_copy {zc u : CS} {k : Int32} {ix : Int32} {ot : Int32} {jx : Int32} {n : Int32} {r : Int32} (h : pC_copy zc k ix ot jx n r u) : fD u = fD zc := by
  rcases h with ⟨_, _, _, rfl⟩ | ⟨_, _, _, _, _, rfl⟩ | ⟨_, _, _, _, _, rfl⟩ | ⟨_, _, _, _, _, _, rfl⟩ | ⟨_, _, _, _, _, _, _, _, _, rfl⟩ | ⟨_, _, _, _, _, _, _, _, _, _, _, _, _, _, _, _, _, _, rfl⟩ | ⟨_, _, _, _, _, _, _, _, _, _, rfl⟩ | ⟨_, _, _, _, _, _, _, _, rfl⟩ | ⟨_, _, _, _, _, _, _, rfl⟩ | ⟨_, _, _, _, _, _, _, _, _, rfl⟩ | ⟨_, _, _, _, _, _, _, _, _, _, _, _, rfl⟩ | ⟨_, _, _, _, _, _, _, _, _, _, _, _, _, _, _, _, _, _, _, _, _, rfl⟩ | ⟨_, _, _, _, _, _, _, _, _, _, _, _, _, rfl⟩ | ⟨_, _, _, _, _, _, _, _, _, _, _, rfl⟩ | ⟨_, _, _, _, _, _, _, _, _, _, rfl⟩
  all_goals rfl
theorem frDR_copy {zr u : RS2} {k : Int32} {ix : Int32} {ot : Int32} {jx : Int32} {n : Int32} {r : Int32} (h : pR_copy zr k ix ot jx n r u) : gD u = gD zr := by
  rcases h with ⟨_, _, rfl⟩ | ⟨_, _, _, _, _, rfl⟩ | ⟨_, _, _, _, _, _, _, _, rfl⟩ | ⟨_, _, _, _, _, _, _, _, _, _, _, rfl⟩ | ⟨_, _, _, _, _, _, _, _, _, _, _, _, _, _, _, _, _, _, _, _, rfl⟩ | ⟨_, _, _, _, _, _, _, _, _, _, _, _, rfl⟩ | ⟨_, _, _, _, _, _, _, _, _, _, rfl⟩ | ⟨_, _, _, _, _, _, _, _, _, rfl⟩
  all_goals rfl
theorem frDC_chart {zc u : CS} {k : Int32} {ln : Int32} {ix : Int32} {n : Int32} {sv : Int32} {r : Int32} (h : pC_chart zc k ln ix n sv r u) : fD u = fD zc := by
  rcases h with ⟨_, _, rfl⟩ | ⟨_, _, _, _, _, _, _, _, _, _, _, _, _, _, _, _, _, _, rfl⟩ | ⟨_, _, _, _, _, _, _, _, _, _, _, _, _, _, _, _, _, _, _, _, _, _, _, _, _, _, _, _, _, rfl⟩ | ⟨_, _, _, _, _, _, _, _, _, _, _, _, _, _, _, _, _, _, rfl⟩ | ⟨_, _, _, _, _, _, _, rfl⟩ | ⟨_, _, _, _, _, _, rfl⟩ | ⟨_, _, _, _, _, rfl⟩
  all_goals rfl
theorem frDR_chart {zr u : RS2} {k : Int32} {ln : Int32} {ix : Int32} {nq : Int32} {sv : Int32} {r : Int32} (h : pR_chart zr k ln ix nq sv r u) : gD u = gD zr := by
  rcases h with ⟨_, _, rfl⟩ | ⟨_, _, _, _, _, _, _, _, _, _, rfl⟩ | ⟨_, _, _, _, _, _, _, _, _, _, _, _, _, _, _, _, _, _, _, _, _, _, _, _, _, _, _, _, _, _, _, _, rfl⟩ | ⟨_, _, _, _, _, _, _, _, _, _, _, _, _, _, _, _, _, _, _, _, _, _, _, _, _, _, rfl⟩ | ⟨_, _, _, _, _, _, _, _, _, _, _, rfl⟩ | ⟨_, _, _, _, _, _, _, _, _, rfl⟩ | ⟨_, _, _, _, _, _, _, _, rfl⟩ | ⟨_, _, _, _, _, _, _, _, _, _, _, rfl⟩ | ⟨_, _, _, _, _, _, _, _, _, _, _, _, _, _, _, _, _, _, _, _, _, _, _, _, _, _, _, _, _, _, _, _, _, rfl⟩ | ⟨_, _, _, _, _, _, _, _, _, _, _, _, _, _, _, _, _, _, _, _, _, _, _, _, _, _, _, rfl⟩ | ⟨_, _, _, _, _, _, _, _, _, _, _, _, rfl⟩ | ⟨_, _, _, _, _, _, _, _, _, _, rfl⟩ | ⟨_, _, _, _, _, _, _, _, _, rfl⟩ | ⟨_, _, _, _, _, _, _, _, rfl⟩ | ⟨_, _, _, _, _, _, rfl⟩ | ⟨_, _, _, _, _, rfl⟩
  all_goals rfl
theorem stD_trace {zc u : CS} {zr w9 : RS2} {r r' : Int32} (h : relD zc zr) (hc : pC_trace zc r u) (hr : pR_trace zr r' w9) : relD u w9 := relD_of (frDC_trace hc) (frDR_trace hr) h
theorem stD_fault {zc u : CS} {zr w9 : RS2} {r r' : Int32} (h : relD zc zr) (hc : pC_fault zc r u) (hr : pR_fault zr r' w9) : relD u w9 := relD_of (frDC_fault hc) (frDR_fault hr) h
theorem stD_told {zc u : CS} {zr w9 : RS2} {a0 : Int32} {r r' : Int32} (h : relD zc zr) (hc : pC_told zc a0 r u) (hr : pR_told zr a0 r' w9) : relD u w9 := relD_of (frDC_told hc) (frDR_told hr) h
theorem stD_good {zc u : CS} {zr w9 : RS2} {x : Int32} {y : Int32} {wh : Int32} {r r' : Int32} (h : relD zc zr) (hc : pC_good zc x y wh r u) (hr : pR_good zr x y wh r' w9) : relD u w9 := relD_of (frDC_good hc) (frDR_good hr) h
theorem stD_money {zc u : CS} {zr w9 : RS2} {t : Int32} {wh : Int32} {r r' : Int64} (h : relD zc zr) (hc : pC_money zc t wh r u) (hr : pR_money zr t wh r' w9) : relD u w9 := relD_of (frDC_money hc) (frDR_money hr) h
theorem stD_debt {zc u : CS} {zr w9 : RS2} {g : Int32} {r r' : Int64} (h : relD zc zr) (hc : pC_debt zc g r u) (hr : pR_debt zr g r' w9) : relD u w9 := relD_of (frDC_debt hc) (frDR_debt hr) h
theorem stD_tell {zc u : CS} {zr w9 : RS2} {g : Int32} {r r' : Int32} (h : relD zc zr) (hc : pC_tell zc g r u) (hr : pR_tell zr g r' w9) : relD u w9 := relD_of (frDC_tell hc) (frDR_tell hr) h
theorem stD_greet {zc u : CS} {zr w9 : RS2} {g : Int32} {r r' : Int32} (h : relD zc zr) (hc : pC_greet zc g r u) (hr : pR_greet zr g r' w9) : relD u w9 := relD_of (frDC_greet hc) (frDR_greet hr) h
theorem stD_as {zc u : CS} {zr w9 : RS2} {g : Int32} {k : Int32} {r r' : Int32} (h : relD zc zr) (hc : pC_as zc g k r u) (hr : pR_as zr g k r' w9) : relD u w9 := relD_of (frDC_as hc) (frDR_as hr) h
theorem stD_taken {zc u : CS} {zr w9 : RS2} {t : Int32} {wh : Int32} {r r' : Int32} (h : relD zc zr) (hc : pC_taken zc t wh r u) (hr : pR_taken zr t wh r' w9) : relD u w9 := relD_of (frDC_taken hc) (frDR_taken hr) h
theorem stD_about {zc u : CS} {zr w9 : RS2} {pp : Int32} {wh : Int32} {r r' : Int32} (h : relD zc zr) (hc : pC_about zc pp wh r u) (hr : pR_about zr pp wh r' w9) : relD u w9 := relD_of (frDC_about hc) (frDR_about hr) h
theorem stD_foretold {zc u : CS} {zr w9 : RS2} {pp : Int32} {wh : Int32} {r r' : Int64} (h : relD zc zr) (hc : pC_foretold zc pp wh r u) (hr : pR_foretold zr pp wh r' w9) : relD u w9 := relD_of (frDC_foretold hc) (frDR_foretold hr) h
theorem stD_sheet {zc u : CS} {zr w9 : RS2} {k : Int32} {ln : Int32} {n : Int32} {r r' : Int32} (h : relD zc zr) (hc : pC_sheet zc k ln n r u) (hr : pR_sheet zr k ln n r' w9) : relD u w9 := relD_of (frDC_sheet hc) (frDR_sheet hr) h
theorem stD_lose {zc u : CS} {zr w9 : RS2} {k : Int32} {r r' : Int32} (h : relD zc zr) (hc : pC_lose zc k r u) (hr : pR_lose zr k r' w9) : relD u w9 := relD_of (frDC_lose hc) (frDR_lose hr) h
theorem stD_put {zc u : CS} {zr w9 : RS2} {k : Int32} {ix : Int32} {v : Int32} {r r' : Int32} (h : relD zc zr) (hc : pC_put zc k ix v r u) (hr : pR_put zr k ix v r' w9) : relD u w9 := relD_of (frDC_put hc) (frDR_put hr) h
theorem stD_cell {zc u : CS} {zr w9 : RS2} {k : Int32} {ix : Int32} {ln : Int32} {r r' : Int64} (h : relD zc zr) (hc : pC_cell zc k ix ln r u) (hr : pR_cell zr k ix ln r' w9) : relD u w9 := relD_of (frDC_cell hc) (frDR_cell hr) h
theorem stD_find {zc u : CS} {zr w9 : RS2} {x : Int32} {y : Int32} {lo : Int32} {hi : Int32} {r r' : Int32} (h : relD zc zr) (hc : pC_find zc x y lo hi r u) (hr : pR_find zr x y lo hi r' w9) : relD u w9 := relD_of (frDC_find hc) (frDR_find hr) h
theorem stD_rise {zc u : CS} {zr w9 : RS2} {dd : Int32} {r r' : Int32} (h : relD zc zr) (hc : pC_rise zc dd r u) (hr : pR_rise zr dd r' w9) : relD u w9 := relD_of (frDC_rise hc) (frDR_rise hr) h
theorem stD_suspects {zc u : CS} {zr w9 : RS2} {r r' : Int32} (h : relD zc zr) (hc : pC_suspects zc r u) (hr : pR_suspects zr r' w9) : relD u w9 := relD_of (frDC_suspects hc) (frDR_suspects hr) h
theorem stD_suspect {zc u : CS} {zr w9 : RS2} {ix : Int32} {r r' : Int32} (h : relD zc zr) (hc : pC_suspect zc ix r u) (hr : pR_suspect zr ix r' w9) : relD u w9 := relD_of (frDC_suspect hc) (frDR_suspect hr) h
theorem stD_skill {zc u : CS} {zr w9 : RS2} {g : Int32} {wh : Int32} {r r' : Int64} (h : relD zc zr) (hc : pC_skill zc g wh r u) (hr : pR_skill zr g wh r' w9) : relD u w9 := relD_of (frDC_skill hc) (frDR_skill hr) h
theorem stD_copy {zc u : CS} {zr w9 : RS2} {k : Int32} {ix : Int32} {ot : Int32} {jx : Int32} {n : Int32} {r r' : Int32} (h : relD zc zr) (hc : pC_copy zc k ix ot jx n r u) (hr : pR_copy zr k ix ot jx n r' w9) : relD u w9 := relD_of (frDC_copy hc) (frDR_copy hr) h
theorem stD_chart {zc u : CS} {zr w9 : RS2} {k : Int32} {ln : Int32} {ix : Int32} {n : Int32} {sv : Int32} {r r' : Int32} (h : relD zc zr) (hc : pC_chart zc k ln ix n sv r u) (hr : pR_chart zr k ln ix n sv r' w9) : relD u w9 := relD_of (frDC_chart hc) (frDR_chart hr) h
theorem cnt_off {P Q : Nat → Bool} {j : Nat} (hP : P j = true) (hQ : Q j = false) : ∀ n, j < n → (∀ k, k < n → k ≠ j → Q k = P k) → fa_cnt P n = fa_cnt Q n + 1
  | n + 1, hj, h => by
    by_cases e : j = n
    · subst e
      rw [fa_cnt_yes hP, fa_cnt_no hQ, fa_cnt_cong (fun k hk => h k (by omega) (by omega))]
    · have ih := cnt_off hP hQ n (by omega) (fun k hk hne => h k (by omega) hne)
      rw [fa_cnt, fa_cnt, ih, h n (by omega) (by omega)]
      omega
theorem cnt_0 {P : Nat → Bool} : ∀ n, (∀ k, k < n → P k = false) → fa_cnt P n = 0
  | 0, _ => rfl
  | n + 1, h => by rw [fa_cnt_no (h n (by omega))]; exact cnt_0 n (fun k hk => h k (by omega))
theorem wsum_cg {f f' a a' b b' : Nat → Int32} {g : Int32} : ∀ n, (∀ k, k < n → f k = f' k ∧ a k = a' k ∧ b k = b' k) → wsum f a b g n = wsum f' a' b' g n
  | 0, _ => rfl
  | n + 1, h => by
    obtain ⟨e1, e2, e3⟩ := h n (by omega)
    rw [wsum, wsum, wsum_cg n (fun k hk => h k (by omega)), e1, e2, e3]
theorem wsum_0 {f a b : Nat → Int32} {g : Int32} : ∀ n, (∀ k, k < n → f k ≠ g) → wsum f a b g n = 0
  | 0, _ => rfl
  | n + 1, h => by rw [wsum, wsum_0 n (fun k hk => h k (by omega)), if_neg (h n (by omega))]; rfl
theorem uL_same {f : Nat → Int64} {k : Nat} : vp_updL f k (f k + 0) = f := by
  funext j
  by_cases e : j = k
  · subst e; rw [pk_uLs]; exact Int64.add_zero _
  · exact pk_uLn e
theorem ix_n {i j n : Nat} (hn : n ≤ 100) (hi : i < n) (hj : j < n) (h : nI i = nI j) : i = j := (nI_eq (by omega) (by omega)).mp h
theorem dn2 {zc : CS} {zr : RS2} (hI : invC zc) (h : relD zc zr) : rs_n zr 0 ≤ 12 ∧ rs_n zr 1 ≤ 8 ∧ rs_n zr 2 ≤ 40 ∧ rs_n zr 3 ≤ 80 := by
  obtain ⟨⟨e0, e1, e2, e3⟩, _⟩ := h
  obtain ⟨⟨h0, h1, h2, h3, _⟩, _⟩ := hI
  exact ⟨e0 ▸ h0, e1 ▸ h1, e2 ▸ h2, e3 ▸ h3⟩
theorem stD_spend {zc u : CS} {zr v : RS2} {t wh pn : Int32} {r r' : Int64} (hI : invC zc) (h : relD zc zr) (hc : pC_spend zc t wh pn r u) (hr : pR_spend zr t wh pn r' v) : relD u v ∧ r = r' := by
  have hb := dn2 hI h
  obtain ⟨⟨e0, e1, e2, e3⟩, hP, hG, hT, hK, hA⟩ := id h
  have k01' : (0 ≤ wh ∧ wh ≤ 1) → ¬ wh = 0 → wh = 1 := fun q z => (k01 q).resolve_left z
  rcases hc with ⟨a1, rfl, rfl⟩ | ⟨jt, rfl, a1, a2, rfl, rfl⟩ | ⟨jt, rfl, a1, a2, a3, a4, a5, rfl, rfl⟩ | ⟨jt, rfl, a1, a2, a3, a4, a5, rfl, rfl⟩ | ⟨jt, rfl, a1, a2, a3, a4, rfl, rfl⟩ | ⟨jt, rfl, a1, a2, a3, rfl, rfl⟩
  · rcases hr with ⟨b1, rfl, rfl⟩ | ⟨j, e, b1, _⟩ | ⟨j, e, b1, _⟩ | ⟨j, e, b1, _⟩ | ⟨j, e, b1, _⟩ | ⟨j, e, b1, _⟩ | ⟨j, e, b1, _⟩ | ⟨j, e, b1, _⟩ | ⟨j, e, b1, _⟩ | ⟨j, e, b1, _⟩ | ⟨j, e, b1, _⟩ | ⟨j, e, b1, _⟩
    · exact ⟨h, rfl⟩
    all_goals exact absurd e (a1 j (e2 ▸ b1))
  all_goals
    have hjt : jt < rs_n zr 2 := e2 ▸ a1
    have ht1 := hT.1 jt hjt
    rcases hr with ⟨b1, rfl, rfl⟩ | ⟨j, e, b1, b2, rfl, rfl⟩ | ⟨j, e, b1, b2, b3, rfl, rfl⟩ | ⟨j, e, b1, b2, b3, b4, b5, b6, b7, rfl, rfl⟩ | ⟨j, e, b1, b2, b3, b4, b5, b6, b7, rfl, rfl⟩ | ⟨j, e, b1, b2, b3, b4, b5, b6, b7, rfl, rfl⟩ | ⟨j, e, b1, b2, b3, b4, b5, b6, b7, rfl, rfl⟩ | ⟨j, e, b1, b2, b3, b4, b5, b6, b7, rfl, rfl⟩ | ⟨j, e, b1, b2, b3, b4, b5, b6, b7, rfl, rfl⟩ | ⟨j, e, b1, b2, b3, b4, b5, b6, b7, rfl, rfl⟩ | ⟨j, e, b1, b2, b3, b4, b5, b6, b7, rfl, rfl⟩ | ⟨j, e, b1, b2, b3, b4, rfl, rfl⟩
    · exact absurd rfl (b1 jt hjt)
    all_goals obtain rfl := ix_n (by omega) hjt b1 e
    all_goals first | exact ⟨h, rfl⟩ | exact absurd b2 a2 | exact absurd a2 b2 | exact absurd b3 a3 | exact absurd a3 b3 | exact absurd (ht1.1.2.2.2.1 ▸ a4) b4 | exact absurd (ht1.1.2.2.2.1 ▸ b4) a4 | exact absurd b5 b7 | exact absurd b7 b5 | exact absurd (k01' b2 b5) b6 | exact absurd (b5 ▸ b6) (by decide) | skip
  all_goals first | exact absurd b5 a5 | exact absurd a5 b5 | skip
  · obtain ⟨_, ⟨x1, x2, x3, x4, x5, x6⟩, _⟩ := ht1
    refine ⟨⟨⟨e0, e1, e2, e3⟩, hP, hG, ⟨fun t ht => ?_, fun t ht => ?_⟩, hK, hA⟩, ?_⟩
    · obtain ⟨y0, ⟨y1, y2, y3, y4, y5, y6⟩, y7⟩ := hT.1 t ht
      refine ⟨y0, ⟨y1, y2, y3, ?_, ?_, y6⟩, y7⟩
      · show cs_L zc 4 t = vp_updL (rs_L zr 31) jt (rs_L zr 31 jt + 0) t
        rw [uL_same]; exact y4
      · show va_up (cs_L zc 5) jt (cs_L zc 5 jt + pn.toInt64) t = vp_updL (rs_L zr 32) jt (rs_L zr 32 jt + pn.toInt64) t
        by_cases q : t = jt
        · subst q; rw [va_up_self, pk_uLs, y5]
        · rw [va_up_ne _ _ q, pk_uLn q]; exact y5
    · have ht' : rs_n zr 2 ≤ t := ht
      obtain ⟨z1, z2, z3, z4⟩ := hT.2 t ht
      refine ⟨z1, ?_, ?_, z4⟩
      · show vp_updL (rs_L zr 31) jt (rs_L zr 31 jt + 0) t = 0
        rw [uL_same]; exact z2
      · show vp_updL (rs_L zr 32) jt (rs_L zr 32 jt + pn.toInt64) t = 0
        rw [pk_uLn (by omega)]; exact z3
    · rw [pk_uLs, x5]
  · obtain ⟨_, ⟨x1, x2, x3, x4, x5, x6⟩, _⟩ := ht1
    refine ⟨⟨⟨e0, e1, e2, e3⟩, hP, hG, ⟨fun t ht => ?_, fun t ht => ?_⟩, hK, hA⟩, ?_⟩
    · obtain ⟨y0, ⟨y1, y2, y3, y4, y5, y6⟩, y7⟩ := hT.1 t ht
      refine ⟨y0, ⟨y1, y2, y3, ?_, ?_, y6⟩, y7⟩
      · show va_up (cs_L zc 4) jt (cs_L zc 4 jt + pn.toInt64) t = vp_updL (rs_L zr 31) jt (rs_L zr 31 jt + pn.toInt64) t
        by_cases q : t = jt
        · subst q; rw [va_up_self, pk_uLs, y4]
        · rw [va_up_ne _ _ q, pk_uLn q]; exact y4
      · show cs_L zc 5 t = vp_updL (rs_L zr 32) jt (rs_L zr 32 jt + 0) t
        rw [uL_same]; exact y5
    · have ht' : rs_n zr 2 ≤ t := ht
      obtain ⟨z1, z2, z3, z4⟩ := hT.2 t ht
      refine ⟨z1, ?_, ?_, z4⟩
      · show vp_updL (rs_L zr 31) jt (rs_L zr 31 jt + pn.toInt64) t = 0
        rw [pk_uLn (by omega)]; exact z2
      · show vp_updL (rs_L zr 32) jt (rs_L zr 32 jt + 0) t = 0
        rw [uL_same]; exact z3
    · rw [pk_uLs, x4]
theorem stD_gang {zc u : CS} {zr v : RS2} {k r r' : Int32} (hI : invC zc) (hJ : invR zr) (h : relD zc zr) (hc : pC_gang zc k r u) (hr : pR_gang zr k r' v) : relD u v := by
  have hb := dn2 hI h
  obtain ⟨⟨e0, e1, e2, e3⟩, hP, hG, hT, hK, hA⟩ := id h
  have e8 : ∀ n, n ≤ 8 → (nI n < 8 ↔ ¬ nI n = 8) := by decide
  have htk := hJ.2.2.2.2.2.1
  have none_g : ∀ (Q : Nat → Bool), (∀ t, t < rs_n zr 2 → Q t = true → rs_I zr 25 t = nI (rs_n zr 1)) → fa_cnt Q (rs_n zr 2) = 0 := fun Q hQ => cnt_0 _ (fun t ht => by
    cases hq : Q t with
    | false => rfl
    | true =>
      obtain ⟨⟨g, hg, eg⟩, _⟩ := htk t ht
      have := (nI_eq (by omega) (by omega)).mp (eg.symm.trans (hQ t ht hq))
      omega)
  have new : ∀ (kk q : Nat), relD (cs_i zc, va_up (cs_n zc) 1 (cs_n zc 1 + 1), va_up (va_up (cs_I zc) 21 (va_up (cs_I zc 21) (cs_n zc 1) 0)) 22 (va_up (cs_I zc 22) (cs_n zc 1) 0), va_up (cs_L zc) 0 (va_up (cs_L zc 0) (cs_n zc 1) 0), va_up (cs_N zc) 1 (va_up (cs_N zc 1) (cs_n zc 1) kk), cs_S zc, va_up (cs_X zc) 2 (va_up (cs_X zc 2) (cs_n zc 1) q)) (rs_i zr, va_up (rs_n zr) 1 (rs_n zr 1 + 1), va_up (rs_I zr) 18 (upd (rs_I zr 18) (rs_n zr 1) k), rs_L zr) := by
    intro kk q
    refine ⟨⟨e0, congrArg (· + 1) e1, e2, e3⟩, hP, ⟨fun g hg => ?_, fun g hg => hG.2 g (by have hg : rs_n zr 1 + 1 ≤ g := hg; omega)⟩, hT, hK, ?_⟩
    · have hg : g < rs_n zr 1 + 1 := hg
      show va_up (cs_I zc 21) (cs_n zc 1) 0 g = nI (fa_cnt (fun t => decide (rs_I zr 25 t = nI g)) (rs_n zr 2)) ∧ va_up (cs_I zc 22) (cs_n zc 1) 0 g = nI (fa_cnt (fun t => decide (rs_I zr 25 t = nI g ∧ rs_I zr 28 t = 0)) (rs_n zr 2)) ∧ va_up (cs_L zc 0) (cs_n zc 1) 0 g = rs_L zr 19 g
      by_cases q : g = rs_n zr 1
      · subst q
        rw [e1, va_up_self, va_up_self, va_up_self, none_g _ (fun t _ z => of_decide_eq_true z), none_g _ (fun t _ z => (of_decide_eq_true z).1), hG.2 _ (Nat.le_refl _)]
        exact ⟨rfl, rfl, rfl⟩
      · rw [va_up_ne _ _ (by omega), va_up_ne _ _ (by omega), va_up_ne _ _ (by omega)]
        exact hG.1 g (by omega)
    · rcases hA with hA | ⟨p, x1, x2, x3, x4, x5, x6, x7, x8, x9⟩
      · exact Or.inl hA
      · refine Or.inr ⟨p, x1, x2, x3, x4, x5, x6, x7, x8, ?_⟩
        rcases x9 with x9 | ⟨y1, g, y2, y3, y4⟩
        · exact Or.inl x9
        · exact Or.inr ⟨y1, g, (show g < rs_n zr 1 + 1 by omega), y3, y4⟩
  rcases hr with ⟨b1, b2, b3, rfl, rfl⟩ | ⟨b1, b2, rfl, rfl⟩ | ⟨b1, rfl, rfl⟩ <;> rcases hc with ⟨a1, a2, a3, rfl, q, rfl, rfl⟩ | ⟨a1, a2, a3, rfl, q, rfl, rfl⟩ | ⟨a1, a2, a3, rfl, q, rfl, rfl⟩ | ⟨a1, a2, rfl, rfl⟩ | ⟨a1, rfl, rfl⟩
  all_goals first | exact new _ _ | exact h | exact absurd a1 b1 | exact absurd b1 a1 | exact absurd ((e8 _ (by omega)).mpr (e1 ▸ b2)) a2 | exact absurd (e1 ▸ b2) ((e8 _ (by omega)).mp a2)
/-- what takeOf answers, against the class's mark -/
theorem takeOf_D {zc : CS} {zr : RS2} {p : Nat} {q : Int32} (hI : invC zc) (h : relD zc zr) (hp : p < rs_n zr 0) (hq : (q = -9 ∧ ∀ u, u < (rs_n zr 2) → ¬ ((rs_I zr 26) u = (nI p) ∧ (rs_I zr 28) u = 0)) ∨ (∃ u, u < (rs_n zr 2) ∧ q = nI u ∧ ((rs_I zr 26) u = (nI p) ∧ (rs_I zr 28) u = 0) ∧ ∀ v, v < u → ¬ ((rs_I zr 26) v = (nI p) ∧ (rs_I zr 28) v = 0))) : (cs_N zc 0 p = 0 ∧ q = -9) ∨ (¬ cs_N zc 0 p = 0 ∧ q = nI (cs_N zc 0 p - 1) ∧ 0 ≤ q) := by
  have hb := dn2 hI h
  obtain ⟨_, _, _, hx⟩ := h.2.1 p hp
  rcases hx with ⟨x1, x2⟩ | ⟨t, x1, x2, x3, x4⟩
  · rcases hq with ⟨rfl, _⟩ | ⟨t', y1, rfl, y2, _⟩
    · exact Or.inl ⟨x1, rfl⟩
    · exact absurd y2 (x2 t' y1)
  · rcases hq with ⟨rfl, y⟩ | ⟨t', y1, rfl, y2, _⟩
    · exact absurd x3 (y t x1)
    · obtain rfl := x4 t' y1 y2
      exact Or.inr ⟨by omega, by rw [x2]; rfl, nI_pos' (by omega)⟩
theorem sold_neg {zc : CS} {zr : RS2} (hI : invC zc) (h : relD zc zr) : (cs_n zc 4 = 0 ↔ rs_i zr 20 < 0) ∧ (cs_n zc 4 = 0 ↔ ¬ 0 ≤ rs_i zr 20) := by
  have hb := dn2 hI h
  rcases h.2.2.2.2.2 with ⟨x1, x2⟩ | ⟨p, x1, x2, x3, _⟩
  · rw [x1, x2]; decide
  · have q : (0 : Int32) ≤ rs_i zr 20 := by rw [x3]; exact nI_pos' (by omega)
    exact ⟨⟨fun z => by omega, fun z => absurd z (Int32.not_lt.mpr q)⟩, ⟨fun z => by omega, fun z => absurd q z⟩⟩
theorem stD_auction {zc u : CS} {zr v : RS2} {pp sv r r' : Int32} (hI : invC zc) (h : relD zc zr) (hc : pC_auction zc pp sv r u) (hr : pR_auction zr pp sv r' v) : relD u v ∧ r = r' := by
  have hb := dn2 hI h
  obtain ⟨⟨e0, e1, e2, e3⟩, hP, hG, hT, hK, hA⟩ := id h
  obtain ⟨hs1, hs2⟩ := sold_neg hI h
  rcases hc with ⟨a1, rfl, rfl⟩ | ⟨jp, rfl, a1, a2, a3, a4, q, rfl, rfl⟩ | ⟨jp, rfl, a1, a2, a3, a4, rfl, rfl⟩ | ⟨jp, rfl, a1, a2, a3, a4, rfl, rfl⟩ | ⟨jp, rfl, a1, a2, a3, a4, rfl, rfl⟩ | ⟨jp, rfl, a1, a2, a3, rfl, rfl⟩ | ⟨jp, rfl, a1, a2, a3, rfl, rfl⟩
  · rcases hr with ⟨b1, rfl, rfl⟩ | ⟨j, e, b1, _⟩ | ⟨j, e, b1, _⟩ | ⟨j, e, b1, _⟩ | ⟨j, e, b1, _⟩
    · exact ⟨h, rfl⟩
    all_goals exact absurd e (a1 j (e0 ▸ b1))
  all_goals
    have hjp : jp < rs_n zr 0 := e0 ▸ a1
    rcases hr with ⟨b1, rfl, rfl⟩ | ⟨j, e, b1, b2, q6, b3, b4, rfl, rfl⟩ | ⟨j, e, b1, b2, q6, b3, b4, b5, rfl, rfl⟩ | ⟨j, e, b1, b2, q6, b3, b4, b5, rfl, rfl⟩ | ⟨j, e, b1, b2, rfl, rfl⟩
    · exact absurd rfl (b1 jp hjp)
    all_goals obtain rfl := ix_n (by omega) hjp b1 e
    all_goals first | exact ⟨h, rfl⟩ | contradiction | skip
  all_goals
    first
    | (rcases takeOf_D hI h hjp b3 with ⟨x1, rfl⟩ | ⟨x1, x2, x3⟩
       all_goals first | exact absurd a2 x1 | exact absurd x1 a2 | exact absurd b4 (by decide) | exact absurd x3 b4 | exact absurd (hs1.mp a3) b5 | exact absurd (hs1.mpr b5) a3 | skip)
    | skip
  refine ⟨⟨⟨e0, e1, e2, e3⟩, hP, hG, hT, hK, Or.inr ⟨jp, hjp, rfl, rfl, rfl, rfl, ?_, (by decide : 0 ≤ (0 : Int32).toInt ∧ (0 : Int32).toInt ≤ 20), a2, Or.inl ⟨rfl, rfl, rfl⟩⟩⟩, rfl⟩
  have q1 := (fa_le _ _).mp a4.1
  have q2 := (fa_le _ _).mp a4.2
  exact ⟨q1, q2⟩
theorem bid_C {zc u : CS} {g sv r : Int32} (hc : pC_bid zc g sv r u) : ((∀ j, j < cs_n zc 1 → g ≠ nI j) ∧ r = -1 ∧ u = zc) ∨ ∃ jg, g = nI jg ∧ jg < cs_n zc 1 ∧ ((cs_n zc 4 = 0 ∧ r = -3 ∧ u = zc) ∨ (¬ cs_n zc 4 = 0 ∧ ((¬ (1 ≤ sv ∧ sv ≤ (if (cs_i zc 4) = 0 then (cs_i zc 3) else (cs_i zc 3) - 1)) ∧ r = -2 ∧ u = zc) ∨ ((1 ≤ sv ∧ sv ≤ (if (cs_i zc 4) = 0 then (cs_i zc 3) else (cs_i zc 3) - 1)) ∧ (((¬ cs_n zc 5 = 0 ∧ cs_n zc 5 - 1 = jg) ∧ r = -3 ∧ u = zc) ∨ (¬ (¬ cs_n zc 5 = 0 ∧ cs_n zc 5 - 1 = jg) ∧ ((¬ cs_I zc 22 jg < 3 ∧ r = -3 ∧ u = zc) ∨ (cs_I zc 22 jg < 3 ∧ ((¬ cs_i zc 4 < 20 ∧ r = -4 ∧ u = zc) ∨ (cs_i zc 4 < 20 ∧ r = cs_i zc 4 + 1 ∧ u = (va_up (va_up (cs_i zc) 3 sv) 4 ((cs_i zc 4) + 1), va_up (cs_n zc) 5 (jg + 1), cs_I zc, cs_L zc, cs_N zc, cs_S zc, cs_X zc))))))))))) := by
  rcases hc with ⟨x0, rfl, rfl⟩ | ⟨jg, e_g, x2, x3, rfl, rfl⟩ | ⟨jg, e_g, x2, x3, x4, x5, x6, x7, x8, x9, rfl, rfl⟩ | ⟨jg, e_g, x2, x3, x4, x5, x6, x7, x8, x9, rfl, rfl⟩ | ⟨jg, e_g, x2, x3, x4, x5, x6, x7, x8, rfl, rfl⟩ | ⟨jg, e_g, x2, x3, x4, x5, x6, rfl, rfl⟩ | ⟨jg, e_g, x2, x3, x4, x5, x6, x7, x8, x9, rfl, rfl⟩ | ⟨jg, e_g, x2, x3, x4, x5, x6, x7, x8, x9, rfl, rfl⟩ | ⟨jg, e_g, x2, x3, x4, x5, x6, x7, x8, rfl, rfl⟩ | ⟨jg, e_g, x2, x3, x4, x5, x6, rfl, rfl⟩ | ⟨jg, e_g, x2, x3, x4, x5, x6, x7, x8, x9, rfl, rfl⟩ | ⟨jg, e_g, x2, x3, x4, x5, x6, x7, x8, x9, rfl, rfl⟩ | ⟨jg, e_g, x2, x3, x4, x5, x6, x7, x8, rfl, rfl⟩ | ⟨jg, e_g, x2, x3, x4, x5, x6, rfl, rfl⟩ | ⟨jg, e_g, x2, x3, x4, x5, x6, x7, rfl, rfl⟩ | ⟨jg, e_g, x2, x3, x4, x5, x6, x7, x8, x9, rfl, rfl⟩ | ⟨jg, e_g, x2, x3, x4, x5, x6, x7, x8, x9, rfl, rfl⟩ | ⟨jg, e_g, x2, x3, x4, x5, x6, x7, x8, rfl, rfl⟩ | ⟨jg, e_g, x2, x3, x4, x5, x6, rfl, rfl⟩ | ⟨jg, e_g, x2, x3, x4, x5, x6, x7, rfl, rfl⟩ | ⟨jg, e_g, x2, x3, x4, x5, x6, x7, x8, x9, rfl, rfl⟩ | ⟨jg, e_g, x2, x3, x4, x5, x6, x7, x8, x9, rfl, rfl⟩ | ⟨jg, e_g, x2, x3, x4, x5, x6, x7, x8, rfl, rfl⟩ | ⟨jg, e_g, x2, x3, x4, x5, x6, rfl, rfl⟩ | ⟨jg, e_g, x2, x3, x4, x5, x6, x7, rfl, rfl⟩ | ⟨jg, e_g, x2, x3, x4, x5, x6, x7, x8, x9, rfl, rfl⟩ | ⟨jg, e_g, x2, x3, x4, x5, x6, x7, x8, x9, rfl, rfl⟩ | ⟨jg, e_g, x2, x3, x4, x5, x6, x7, x8, rfl, rfl⟩ | ⟨jg, e_g, x2, x3, x4, x5, x6, rfl, rfl⟩
  · exact Or.inl ⟨x0, rfl, rfl⟩
  · exact Or.inr ⟨jg, e_g, x2, Or.inl ⟨x3, rfl, rfl⟩⟩
  · exact Or.inr ⟨jg, e_g, x2, Or.inr ⟨x3, Or.inr ⟨x6, Or.inr ⟨(fun z => z.1 x4), Or.inr ⟨x8, Or.inr ⟨x9, rfl, rfl⟩⟩⟩⟩⟩⟩
  · exact Or.inr ⟨jg, e_g, x2, Or.inr ⟨x3, Or.inr ⟨x6, Or.inr ⟨(fun z => z.1 x4), Or.inr ⟨x8, Or.inl ⟨x9, rfl, rfl⟩⟩⟩⟩⟩⟩
  · exact Or.inr ⟨jg, e_g, x2, Or.inr ⟨x3, Or.inr ⟨x6, Or.inr ⟨(fun z => z.1 x4), Or.inl ⟨x8, rfl, rfl⟩⟩⟩⟩⟩
  · exact Or.inr ⟨jg, e_g, x2, Or.inr ⟨x3, Or.inl ⟨x6, rfl, rfl⟩⟩⟩
  · exact Or.inr ⟨jg, e_g, x2, Or.inr ⟨x3, Or.inr ⟨x6, Or.inr ⟨(fun z => z.1 x4), Or.inr ⟨x8, Or.inr ⟨x9, rfl, rfl⟩⟩⟩⟩⟩⟩
  · exact Or.inr ⟨jg, e_g, x2, Or.inr ⟨x3, Or.inr ⟨x6, Or.inr ⟨(fun z => z.1 x4), Or.inr ⟨x8, Or.inl ⟨x9, rfl, rfl⟩⟩⟩⟩⟩⟩
  · exact Or.inr ⟨jg, e_g, x2, Or.inr ⟨x3, Or.inr ⟨x6, Or.inr ⟨(fun z => z.1 x4), Or.inl ⟨x8, rfl, rfl⟩⟩⟩⟩⟩
  · exact Or.inr ⟨jg, e_g, x2, Or.inr ⟨x3, Or.inl ⟨x6, rfl, rfl⟩⟩⟩
  · exact Or.inr ⟨jg, e_g, x2, Or.inr ⟨x3, Or.inr ⟨x6, Or.inr ⟨(fun z => z.1 x4), Or.inr ⟨x8, Or.inr ⟨x9, rfl, rfl⟩⟩⟩⟩⟩⟩
  · exact Or.inr ⟨jg, e_g, x2, Or.inr ⟨x3, Or.inr ⟨x6, Or.inr ⟨(fun z => z.1 x4), Or.inr ⟨x8, Or.inl ⟨x9, rfl, rfl⟩⟩⟩⟩⟩⟩
  · exact Or.inr ⟨jg, e_g, x2, Or.inr ⟨x3, Or.inr ⟨x6, Or.inr ⟨(fun z => z.1 x4), Or.inl ⟨x8, rfl, rfl⟩⟩⟩⟩⟩
  · exact Or.inr ⟨jg, e_g, x2, Or.inr ⟨x3, Or.inl ⟨x6, rfl, rfl⟩⟩⟩
  · exact Or.inr ⟨jg, e_g, x2, Or.inr ⟨x3, Or.inr ⟨x6, Or.inl ⟨⟨x4, x7⟩, rfl, rfl⟩⟩⟩⟩
  · exact Or.inr ⟨jg, e_g, x2, Or.inr ⟨x3, Or.inr ⟨x6, Or.inr ⟨(fun z => x7 z.2), Or.inr ⟨x8, Or.inr ⟨x9, rfl, rfl⟩⟩⟩⟩⟩⟩
  · exact Or.inr ⟨jg, e_g, x2, Or.inr ⟨x3, Or.inr ⟨x6, Or.inr ⟨(fun z => x7 z.2), Or.inr ⟨x8, Or.inl ⟨x9, rfl, rfl⟩⟩⟩⟩⟩⟩
  · exact Or.inr ⟨jg, e_g, x2, Or.inr ⟨x3, Or.inr ⟨x6, Or.inr ⟨(fun z => x7 z.2), Or.inl ⟨x8, rfl, rfl⟩⟩⟩⟩⟩
  · exact Or.inr ⟨jg, e_g, x2, Or.inr ⟨x3, Or.inl ⟨x6, rfl, rfl⟩⟩⟩
  · exact Or.inr ⟨jg, e_g, x2, Or.inr ⟨x3, Or.inr ⟨x6, Or.inl ⟨⟨x4, x7⟩, rfl, rfl⟩⟩⟩⟩
  · exact Or.inr ⟨jg, e_g, x2, Or.inr ⟨x3, Or.inr ⟨x6, Or.inr ⟨(fun z => x7 z.2), Or.inr ⟨x8, Or.inr ⟨x9, rfl, rfl⟩⟩⟩⟩⟩⟩
  · exact Or.inr ⟨jg, e_g, x2, Or.inr ⟨x3, Or.inr ⟨x6, Or.inr ⟨(fun z => x7 z.2), Or.inr ⟨x8, Or.inl ⟨x9, rfl, rfl⟩⟩⟩⟩⟩⟩
  · exact Or.inr ⟨jg, e_g, x2, Or.inr ⟨x3, Or.inr ⟨x6, Or.inr ⟨(fun z => x7 z.2), Or.inl ⟨x8, rfl, rfl⟩⟩⟩⟩⟩
  · exact Or.inr ⟨jg, e_g, x2, Or.inr ⟨x3, Or.inl ⟨x6, rfl, rfl⟩⟩⟩
  · exact Or.inr ⟨jg, e_g, x2, Or.inr ⟨x3, Or.inr ⟨x6, Or.inl ⟨⟨x4, x7⟩, rfl, rfl⟩⟩⟩⟩
  · exact Or.inr ⟨jg, e_g, x2, Or.inr ⟨x3, Or.inr ⟨x6, Or.inr ⟨(fun z => x7 z.2), Or.inr ⟨x8, Or.inr ⟨x9, rfl, rfl⟩⟩⟩⟩⟩⟩
  · exact Or.inr ⟨jg, e_g, x2, Or.inr ⟨x3, Or.inr ⟨x6, Or.inr ⟨(fun z => x7 z.2), Or.inr ⟨x8, Or.inl ⟨x9, rfl, rfl⟩⟩⟩⟩⟩⟩
  · exact Or.inr ⟨jg, e_g, x2, Or.inr ⟨x3, Or.inr ⟨x6, Or.inr ⟨(fun z => x7 z.2), Or.inl ⟨x8, rfl, rfl⟩⟩⟩⟩⟩
  · exact Or.inr ⟨jg, e_g, x2, Or.inr ⟨x3, Or.inl ⟨x6, rfl, rfl⟩⟩⟩
def sOw (k : Int32) (d : Int64) : Int64 := if k = 2 then d / 2 else d
def sX (k sh : Int32) (w co ah d : Int64) : Int64 := sh.toInt64 * w / 240 - (if k ≤ 0 then co else co / 2) - ah - sOw k d
def sPay (x : Int64) : Int64 := if 0 ≤ x then x else 0
def sDe (k : Int32) (d x : Int64) : Int64 := (d - sOw k d) + (if 0 ≤ x then 0 else -x)
theorem uL_two {f : Nat → Int64} {k : Nat} {a b : Int64} : vp_updL (vp_updL f k a) k b = vp_updL f k b := by
  funext j
  by_cases e : j = k
  · subst e; rw [pk_uLs, pk_uLs]
  · rw [pk_uLn e, pk_uLn e, pk_uLn e]
theorem sX_of {k sh : Int32} {w co ah d x y : Int64} (h1 : (if k ≤ 0 then co else co / 2) = x) (h2 : sOw k d = y) : sX k sh w co ah d = sh.toInt64 * w / 240 - x - ah - y := by rw [sX, h1, h2]
theorem settle_R {zr v : RS2} {t : Int32} {r : Int64} (hr : pR_settle zr t r v) : (((∀ j, j < rs_n zr 2 → t ≠ nI j) ∨ ∃ jt, t = nI jt ∧ jt < rs_n zr 2 ∧ ¬ rs_I zr 28 jt = 0) ∧ r = -9223372036854775808 ∧ v = zr) ∨ ∃ jt jg, t = nI jt ∧ jt < rs_n zr 2 ∧ rs_I zr 28 jt = 0 ∧ jg < rs_n zr 1 ∧ rs_I zr 25 jt = nI jg ∧ r = sPay (sX (rs_I zr 18 jg) (rs_I zr 27 jt) (wsum (rs_I zr 35) (rs_I zr 36) (rs_I zr 37) (nI jt) (rs_n zr 3)) (rs_L zr 31 jt) (rs_L zr 32 jt) (rs_L zr 19 jg)) ∧ v = (rs_i zr, rs_n zr, va_up (rs_I zr) 28 (upd (rs_I zr 28) jt 1), va_up (va_up (rs_L zr) 19 (vp_updL (rs_L zr 19) jg (sDe (rs_I zr 18 jg) (rs_L zr 19 jg) (sX (rs_I zr 18 jg) (rs_I zr 27 jt) (wsum (rs_I zr 35) (rs_I zr 36) (rs_I zr 37) (nI jt) (rs_n zr 3)) (rs_L zr 31 jt) (rs_L zr 32 jt) (rs_L zr 19 jg))))) 33 (vp_updL (rs_L zr 33) jt (sPay (sX (rs_I zr 18 jg) (rs_I zr 27 jt) (wsum (rs_I zr 35) (rs_I zr 36) (rs_I zr 37) (nI jt) (rs_n zr 3)) (rs_L zr 31 jt) (rs_L zr 32 jt) (rs_L zr 19 jg))))) := by
  rcases hr with ⟨x0, rfl, rfl⟩ | ⟨jt, e_t, x2, x3, jg, x5, x6, x7, x8, x9, x10, rfl, rfl⟩ | ⟨jt, e_t, x2, x3, jg, x5, x6, x7, x8, x9, x10, rfl, rfl⟩ | ⟨jt, e_t, x2, x3, jg, x5, x6, x7, x8, x9, x10, rfl, rfl⟩ | ⟨jt, e_t, x2, x3, jg, x5, x6, x7, x8, x9, x10, rfl, rfl⟩ | ⟨jt, e_t, x2, x3, jg, x5, x6, x7, x8, x9, x10, rfl, rfl⟩ | ⟨jt, e_t, x2, x3, jg, x5, x6, x7, x8, x9, x10, rfl, rfl⟩ | ⟨jt, e_t, x2, x3, jg, x5, x6, x7, x8, x9, x10, rfl, rfl⟩ | ⟨jt, e_t, x2, x3, jg, x5, x6, x7, x8, x9, x10, rfl, rfl⟩ | ⟨jt, e_t, x2, x3, jg, x5, x6, x7, x8, x9, x10, rfl, rfl⟩ | ⟨jt, e_t, x2, x3, jg, x5, x6, x7, x8, x9, x10, rfl, rfl⟩ | ⟨jt, e_t, x2, x3, jg, x5, x6, x7, x8, x9, x10, rfl, rfl⟩ | ⟨jt, e_t, x2, x3, jg, x5, x6, x7, x8, x9, x10, rfl, rfl⟩ | ⟨jt, e_t, x2, x3, jg, x5, x6, x7, x8, x9, x10, rfl, rfl⟩ | ⟨jt, e_t, x2, x3, jg, x5, x6, x7, x8, x9, x10, rfl, rfl⟩ | ⟨jt, e_t, x2, x3, jg, x5, x6, x7, x8, x9, x10, rfl, rfl⟩ | ⟨jt, e_t, x2, x3, jg, x5, x6, x7, x8, x9, x10, rfl, rfl⟩ | ⟨jt, e_t, x2, x3, rfl, rfl⟩
  · exact Or.inl ⟨Or.inl x0, rfl, rfl⟩
  · have eo : sOw (rs_I zr 18 jg) (rs_L zr 19 jg) = _ := if_neg x7
    have ex := sX_of (sh := rs_I zr 27 jt) (w := wsum (rs_I zr 35) (rs_I zr 36) (rs_I zr 37) (nI jt) (rs_n zr 3)) (ah := rs_L zr 32 jt) (co := rs_L zr 31 jt) (if_pos x8) eo
    rw [← ex] at x9
    refine Or.inr ⟨jt, jg, e_t, x2, x3, x5, x6, ?_, ?_⟩
    · rw [pk_uLs, sPay, if_pos x9, ex]
    · rw [uL_two, pk_uLs, sDe, sPay, eo, if_pos x9, if_pos x9, ex]; rfl
  · exact absurd x9 x10
  · exact absurd x10 x9
  · have eo : sOw (rs_I zr 18 jg) (rs_L zr 19 jg) = _ := if_neg x7
    have ex := sX_of (sh := rs_I zr 27 jt) (w := wsum (rs_I zr 35) (rs_I zr 36) (rs_I zr 37) (nI jt) (rs_n zr 3)) (ah := rs_L zr 32 jt) (co := rs_L zr 31 jt) (if_pos x8) eo
    rw [← ex] at x9
    refine Or.inr ⟨jt, jg, e_t, x2, x3, x5, x6, ?_, ?_⟩
    · rw [pk_uLs, sPay, if_neg x9]
    · rw [uL_two, pk_uLs, sDe, sPay, eo, if_neg x9, if_neg x9, ex]; rfl
  · have eo : sOw (rs_I zr 18 jg) (rs_L zr 19 jg) = _ := if_neg x7
    have ex := sX_of (sh := rs_I zr 27 jt) (w := wsum (rs_I zr 35) (rs_I zr 36) (rs_I zr 37) (nI jt) (rs_n zr 3)) (ah := rs_L zr 32 jt) (co := rs_L zr 31 jt) (if_neg x8) eo
    rw [← ex] at x9
    refine Or.inr ⟨jt, jg, e_t, x2, x3, x5, x6, ?_, ?_⟩
    · rw [pk_uLs, sPay, if_pos x9, ex]
    · rw [uL_two, pk_uLs, sDe, sPay, eo, if_pos x9, if_pos x9, ex]; rfl
  · exact absurd x9 x10
  · exact absurd x10 x9
  · have eo : sOw (rs_I zr 18 jg) (rs_L zr 19 jg) = _ := if_neg x7
    have ex := sX_of (sh := rs_I zr 27 jt) (w := wsum (rs_I zr 35) (rs_I zr 36) (rs_I zr 37) (nI jt) (rs_n zr 3)) (ah := rs_L zr 32 jt) (co := rs_L zr 31 jt) (if_neg x8) eo
    rw [← ex] at x9
    refine Or.inr ⟨jt, jg, e_t, x2, x3, x5, x6, ?_, ?_⟩
    · rw [pk_uLs, sPay, if_neg x9]
    · rw [uL_two, pk_uLs, sDe, sPay, eo, if_neg x9, if_neg x9, ex]; rfl
  · have eo : sOw (rs_I zr 18 jg) (rs_L zr 19 jg) = _ := if_pos x7
    have ex := sX_of (sh := rs_I zr 27 jt) (w := wsum (rs_I zr 35) (rs_I zr 36) (rs_I zr 37) (nI jt) (rs_n zr 3)) (ah := rs_L zr 32 jt) (co := rs_L zr 31 jt) (if_pos x8) eo
    rw [← ex] at x9
    refine Or.inr ⟨jt, jg, e_t, x2, x3, x5, x6, ?_, ?_⟩
    · rw [pk_uLs, sPay, if_pos x9, ex]
    · rw [uL_two, pk_uLs, sDe, sPay, eo, if_pos x9, if_pos x9, ex]; rfl
  · exact absurd x9 x10
  · exact absurd x10 x9
  · have eo : sOw (rs_I zr 18 jg) (rs_L zr 19 jg) = _ := if_pos x7
    have ex := sX_of (sh := rs_I zr 27 jt) (w := wsum (rs_I zr 35) (rs_I zr 36) (rs_I zr 37) (nI jt) (rs_n zr 3)) (ah := rs_L zr 32 jt) (co := rs_L zr 31 jt) (if_pos x8) eo
    rw [← ex] at x9
    refine Or.inr ⟨jt, jg, e_t, x2, x3, x5, x6, ?_, ?_⟩
    · rw [pk_uLs, sPay, if_neg x9]
    · rw [uL_two, pk_uLs, sDe, sPay, eo, if_neg x9, if_neg x9, ex]; rfl
  · have eo : sOw (rs_I zr 18 jg) (rs_L zr 19 jg) = _ := if_pos x7
    have ex := sX_of (sh := rs_I zr 27 jt) (w := wsum (rs_I zr 35) (rs_I zr 36) (rs_I zr 37) (nI jt) (rs_n zr 3)) (ah := rs_L zr 32 jt) (co := rs_L zr 31 jt) (if_neg x8) eo
    rw [← ex] at x9
    refine Or.inr ⟨jt, jg, e_t, x2, x3, x5, x6, ?_, ?_⟩
    · rw [pk_uLs, sPay, if_pos x9, ex]
    · rw [uL_two, pk_uLs, sDe, sPay, eo, if_pos x9, if_pos x9, ex]; rfl
  · exact absurd x9 x10
  · exact absurd x10 x9
  · have eo : sOw (rs_I zr 18 jg) (rs_L zr 19 jg) = _ := if_pos x7
    have ex := sX_of (sh := rs_I zr 27 jt) (w := wsum (rs_I zr 35) (rs_I zr 36) (rs_I zr 37) (nI jt) (rs_n zr 3)) (ah := rs_L zr 32 jt) (co := rs_L zr 31 jt) (if_neg x8) eo
    rw [← ex] at x9
    refine Or.inr ⟨jt, jg, e_t, x2, x3, x5, x6, ?_, ?_⟩
    · rw [pk_uLs, sPay, if_neg x9]
    · rw [uL_two, pk_uLs, sDe, sPay, eo, if_neg x9, if_neg x9, ex]; rfl
  · exact Or.inl ⟨Or.inr ⟨jt, e_t, x2, x3⟩, rfl, rfl⟩
theorem lim0 {sv pr : Int32} : (1 ≤ sv.toInt64 ∧ sv.toInt64 ≤ pr.toInt64) ↔ (1 ≤ sv ∧ sv ≤ pr) := by
  have z1 : (1 : Int64).toInt = 1 := by decide
  have z2 : (1 : Int32).toInt = 1 := by decide
  rw [Int64.le_iff_toInt_le, Int64.le_iff_toInt_le, Int32.le_iff_toInt_le, Int32.le_iff_toInt_le, Int32.toInt_toInt64, Int32.toInt_toInt64, z1, z2]
theorem lim1 {sv pr : Int32} (h : 1 ≤ pr.toInt ∧ pr.toInt ≤ 240) : (1 ≤ sv.toInt64 ∧ sv.toInt64 ≤ pr.toInt64 - 1) ↔ (1 ≤ sv ∧ sv ≤ pr - 1) := by
  have z1 : (1 : Int64).toInt = 1 := by decide
  have z2 : (1 : Int32).toInt = 1 := by decide
  rw [Int64.le_iff_toInt_le, Int64.le_iff_toInt_le, Int32.le_iff_toInt_le, Int32.le_iff_toInt_le, Int64.toInt_sub, Int32.toInt_sub, Int32.toInt_toInt64, Int32.toInt_toInt64, z1, z2, Int.bmod_eq_of_le (by omega) (by omega), Int.bmod_eq_of_le (by omega) (by omega)]
theorem stD_bid {zc u : CS} {zr v : RS2} {g sv r r' : Int32} (hI : invC zc) (h : relD zc zr) (hc : pC_bid zc g sv r u) (hr : pR_bid zr g sv r' v) : relD u v ∧ r = r' := by
  have hb := dn2 hI h
  obtain ⟨⟨e0, e1, e2, e3⟩, hP, hG, hT, hK, hA⟩ := id h
  obtain ⟨hs1, hs2⟩ := sold_neg hI h
  rcases bid_C hc with ⟨a1, rfl, rfl⟩ | ⟨jg, rfl, a1, hc⟩
  · rcases hr with ⟨b1, rfl, rfl⟩ | ⟨j, e, b1, _⟩ | ⟨j, e, b1, _⟩ | ⟨j, e, b1, _⟩ | ⟨j, e, b1, _⟩ | ⟨j, e, b1, _⟩ | ⟨j, e, b1, _⟩ | ⟨j, e, b1, _⟩ | ⟨j, e, b1, _⟩ | ⟨j, e, b1, _⟩ | ⟨j, e, b1, _⟩ | ⟨j, e, b1, _⟩
    · exact ⟨h, rfl⟩
    all_goals exact absurd e (a1 j (e1 ▸ b1))
  have hjg : jg < rs_n zr 1 := e1 ▸ a1
  have hcnt := (hG.1 jg hjg).2.1
  rcases hc with ⟨a2, rfl, rfl⟩ | ⟨a2, hc⟩
  · have hs := hs2.mp a2
    rcases hr with ⟨b1, rfl, rfl⟩ | ⟨j, e, b1, b2, _⟩ | ⟨j, e, b1, b2, _⟩ | ⟨j, e, b1, b2, _⟩ | ⟨j, e, b1, b2, _⟩ | ⟨j, e, b1, b2, _⟩ | ⟨j, e, b1, b2, _⟩ | ⟨j, e, b1, b2, _⟩ | ⟨j, e, b1, b2, _⟩ | ⟨j, e, b1, b2, _⟩ | ⟨j, e, b1, b2, _⟩ | ⟨j, e, b1, b2, rfl, rfl⟩
    · exact absurd rfl (b1 jg hjg)
    all_goals first | exact absurd b2 hs | exact ⟨h, rfl⟩
  rcases hA with ⟨z, _⟩ | ⟨p, x1, x2, x3, x4, x5, x6, x7, x8, x9⟩
  · exact absurd z a2
  have hs : 0 ≤ rs_i zr 20 := Decidable.not_not.mp (fun q => a2 (hs2.mpr q))
  have lm0 : rs_i zr 22 = 0 → ((1 ≤ sv.toInt64 ∧ sv.toInt64 ≤ (rs_i zr 21).toInt64) ↔ (1 ≤ sv ∧ sv ≤ (if (cs_i zc 4) = 0 then (cs_i zc 3) else (cs_i zc 3) - 1))) := fun q => by rw [lim0, x5, if_pos q, x4]
  have lm1 : ¬ rs_i zr 22 = 0 → ((1 ≤ sv.toInt64 ∧ sv.toInt64 ≤ (rs_i zr 21).toInt64 - 1) ↔ (1 ≤ sv ∧ sv ≤ (if (cs_i zc 4) = 0 then (cs_i zc 3) else (cs_i zc 3) - 1))) := fun q => by rw [lim1 x6, x5, if_neg q, x4]
  have hlb : rs_i zr 23 = nI jg ↔ (¬ cs_n zc 5 = 0 ∧ cs_n zc 5 - 1 = jg) := by
    rcases x9 with ⟨y1, y2, y3⟩ | ⟨y1, g', y2, y3, y4⟩
    · rw [y1, y3]
      refine ⟨fun q => absurd q ?_, fun q => absurd rfl q.1⟩
      intro q
      have q := (fa_eq _ _).mp q
      rw [nI_toInt (by omega)] at q
      have z : (-1 : Int32).toInt = -1 := by decide
      omega
    · rw [y3, y4, nI_eq (by omega) (by omega)]
      omega
  have h20 : rs_i zr 22 = 20 ↔ ¬ cs_i zc 4 < 20 := by
    have z : (20 : Int32).toInt = 20 := by decide
    rw [x5, fa_eq, fa_lt, z]; omega
  have hr' : (¬ (1 ≤ sv ∧ sv ≤ (if (cs_i zc 4) = 0 then (cs_i zc 3) else (cs_i zc 3) - 1)) ∧ r' = -2 ∧ v = zr) ∨ ((1 ≤ sv ∧ sv ≤ (if (cs_i zc 4) = 0 then (cs_i zc 3) else (cs_i zc 3) - 1)) ∧ (((¬ cs_n zc 5 = 0 ∧ cs_n zc 5 - 1 = jg) ∧ r' = -3 ∧ v = zr) ∨ (¬ (¬ cs_n zc 5 = 0 ∧ cs_n zc 5 - 1 = jg) ∧ ((¬ cs_I zc 22 jg < 3 ∧ r' = -3 ∧ v = zr) ∨ (cs_I zc 22 jg < 3 ∧ ((¬ cs_i zc 4 < 20 ∧ r' = -4 ∧ v = zr) ∨ (cs_i zc 4 < 20 ∧ r' = rs_i zr 22 + 1 ∧ v = (va_up (va_up (va_up (rs_i zr) 21 sv) 22 ((rs_i zr 22) + 1)) 23 (nI jg), rs_n zr, rs_I zr, rs_L zr)))))))) := by
    rcases hr with ⟨b1, _⟩ | ⟨j, e, b1, b2, b3, b4, b5, rfl, rfl⟩ | ⟨j, e, b1, b2, b3, b4, b5, b6, b7, rfl, rfl⟩ | ⟨j, e, b1, b2, b3, b4, b5, b6, b7, rfl, rfl⟩ | ⟨j, e, b1, b2, b3, b4, b5, b6, rfl, rfl⟩ | ⟨j, e, b1, b2, b3, b4, rfl, rfl⟩ | ⟨j, e, b1, b2, b3, b4, b5, rfl, rfl⟩ | ⟨j, e, b1, b2, b3, b4, b5, b6, b7, rfl, rfl⟩ | ⟨j, e, b1, b2, b3, b4, b5, b6, b7, rfl, rfl⟩ | ⟨j, e, b1, b2, b3, b4, b5, b6, rfl, rfl⟩ | ⟨j, e, b1, b2, b3, b4, rfl, rfl⟩ | ⟨j, e, b1, b2, _⟩
    · exact absurd rfl (b1 jg hjg)
    all_goals obtain rfl := ix_n (by omega) hjg b1 e
    · exact Or.inr ⟨(lm1 b3).mp b4, Or.inl ⟨hlb.mp b5, rfl, rfl⟩⟩
    · exact Or.inr ⟨(lm1 b3).mp b4, Or.inr ⟨fun q => b5 (hlb.mpr q), Or.inr ⟨hcnt ▸ b6, Or.inr ⟨Decidable.not_not.mp (fun q => b7 (h20.mpr q)), rfl, rfl⟩⟩⟩⟩
    · exact Or.inr ⟨(lm1 b3).mp b4, Or.inr ⟨fun q => b5 (hlb.mpr q), Or.inr ⟨hcnt ▸ b6, Or.inl ⟨h20.mp b7, rfl, rfl⟩⟩⟩⟩
    · exact Or.inr ⟨(lm1 b3).mp b4, Or.inr ⟨fun q => b5 (hlb.mpr q), Or.inl ⟨hcnt ▸ b6, rfl, rfl⟩⟩⟩
    · exact Or.inl ⟨fun q => b4 ((lm1 b3).mpr q), rfl, rfl⟩
    · exact Or.inr ⟨(lm0 b3).mp b4, Or.inl ⟨hlb.mp b5, rfl, rfl⟩⟩
    · exact Or.inr ⟨(lm0 b3).mp b4, Or.inr ⟨fun q => b5 (hlb.mpr q), Or.inr ⟨hcnt ▸ b6, Or.inr ⟨Decidable.not_not.mp (fun q => b7 (h20.mpr q)), rfl, rfl⟩⟩⟩⟩
    · exact Or.inr ⟨(lm0 b3).mp b4, Or.inr ⟨fun q => b5 (hlb.mpr q), Or.inr ⟨hcnt ▸ b6, Or.inl ⟨h20.mp b7, rfl, rfl⟩⟩⟩⟩
    · exact Or.inr ⟨(lm0 b3).mp b4, Or.inr ⟨fun q => b5 (hlb.mpr q), Or.inl ⟨hcnt ▸ b6, rfl, rfl⟩⟩⟩
    · exact Or.inl ⟨fun q => b4 ((lm0 b3).mpr q), rfl, rfl⟩
    · exact absurd hs b2
  rcases hc with ⟨c1, rfl, rfl⟩ | ⟨c1, ⟨c2, rfl, rfl⟩ | ⟨c2, ⟨c3, rfl, rfl⟩ | ⟨c3, ⟨c4, rfl, rfl⟩ | ⟨c4, rfl, rfl⟩⟩⟩⟩ <;> rcases hr' with ⟨d1, rfl, rfl⟩ | ⟨d1, ⟨d2, rfl, rfl⟩ | ⟨d2, ⟨d3, rfl, rfl⟩ | ⟨d3, ⟨d4, rfl, rfl⟩ | ⟨d4, rfl, rfl⟩⟩⟩⟩
  all_goals first | exact ⟨h, rfl⟩ | contradiction | skip
  refine ⟨⟨⟨e0, e1, e2, e3⟩, hP, hG, hT, hK, Or.inr ⟨p, x1, x2, x3, rfl, congrArg (· + 1) x5, ?_, ?_, x8, Or.inr ⟨?_, jg, hjg, rfl, rfl⟩⟩⟩, congrArg (· + 1) x5⟩
  · show 1 ≤ sv.toInt ∧ sv.toInt ≤ 240
    have q1 := (fa_le _ _).mp c1.1
    have q2 := (fa_le _ _).mp c1.2
    have z2 : (1 : Int32).toInt = 1 := by decide
    by_cases q : cs_i zc 4 = 0
    · rw [if_pos q, x4] at q2; omega
    · rw [if_neg q, x4, Int32.toInt_sub, z2, Int.bmod_eq_of_le (by omega) (by omega)] at q2; omega
  · show 0 ≤ (rs_i zr 22 + 1).toInt ∧ (rs_i zr 22 + 1).toInt ≤ 20
    have z2 : (1 : Int32).toInt = 1 := by decide
    have z20 : (20 : Int32).toInt = 20 := by decide
    have q := (fa_lt _ _).mp c4
    rw [x5, z20] at q
    rw [Int32.toInt_add, z2, Int.bmod_eq_of_le (by omega) (by omega)]; omega
  · show ¬ rs_i zr 22 + 1 = 0
    intro q
    have z2 : (1 : Int32).toInt = 1 := by decide
    have z0 : (0 : Int32).toInt = 0 := by decide
    have q := (fa_eq _ _).mp q
    rw [Int32.toInt_add, z2, z0, Int.bmod_eq_of_le (by omega) (by omega)] at q; omega
theorem stD_pitch {zc u : CS} {zr v : RS2} {x y xx yy tn r r' : Int32} (hI : invC zc) (hJ : invR zr) (h : relD zc zr) (hc : pC_pitch zc x y xx yy tn r u) (hr : pR_pitch zr x y xx yy tn r' v) : relD u v ∧ r = r' := by
  have hb := dn2 hI h
  obtain ⟨⟨e0, e1, e2, e3⟩, hP, hG, hT, hK, hA⟩ := id h
  have htk := hJ.2.2.2.2.2.1
  have ov : ∀ p, p < rs_n zr 0 → ((cs_I zc 11 p ≤ xx ∧ x ≤ cs_I zc 13 p ∧ cs_I zc 12 p ≤ yy ∧ y ≤ cs_I zc 14 p) ↔ (x ≤ rs_I zr 14 p ∧ rs_I zr 12 p ≤ xx ∧ y ≤ rs_I zr 15 p ∧ rs_I zr 13 p ≤ yy)) := fun p hp => by
    obtain ⟨⟨q1, q2, q3, q4, _⟩, _⟩ := hP p hp
    rw [q1, q2, q3, q4]
    exact ⟨fun z => ⟨z.2.1, z.1, z.2.2.2, z.2.2.1⟩, fun z => ⟨z.2.1, z.1, z.2.2.2, z.2.2.1⟩⟩
  have e12 : ∀ n, n ≤ 12 → (nI n < 12 ↔ ¬ nI n = 12) := by decide
  have c12 := e12 (rs_n zr 0) hb.1
  rcases hc with ⟨a1, rfl, rfl⟩ | ⟨a1, a2, a3, rfl, rfl⟩ | ⟨a1, a2, a3, a4, rfl, rfl⟩ | ⟨a1, a2, a3, a4, a5, a6, a7, a8, q, rfl, rfl⟩ | ⟨a1, a2, a3, a4, a5, a6, a7, rfl, rfl⟩ | ⟨a1, a2, a3, a4, a5, ⟨p, a6, a7⟩, rfl, rfl⟩ | ⟨a1, a2, a3, a4, a5, rfl, rfl⟩ | ⟨a1, a2, rfl, rfl⟩ <;> rcases hr with ⟨b1, rfl, rfl⟩ | ⟨b1, b2, b3, rfl, rfl⟩ | ⟨b1, b2, b3, b4, rfl, rfl⟩ | ⟨b1, b2, b3, b4, b5, b6, b7, b8, rfl, rfl⟩ | ⟨b1, b2, b3, b4, b5, b6, b7, rfl, rfl⟩ | ⟨b1, b2, b3, b4, b5, p', b6, b7, rfl, rfl⟩ | ⟨b1, b2, b3, b4, b5, rfl, rfl⟩ | ⟨b1, b2, rfl, rfl⟩
  all_goals first | exact ⟨h, rfl⟩ | contradiction | exact absurd (c12.mp (e0 ▸ a7)) (not_not_intro b6) | exact absurd (c12.mpr b6) (e0 ▸ a7) | exact absurd ((ov p' b6).mpr b7) (a6 p' (e0 ▸ b6)) | exact absurd ((ov p (e0 ▸ a6)).mp a7) (b8 p (e0 ▸ a6)) | exact absurd ((ov p (e0 ▸ a6)).mp a7) (b7 p (e0 ▸ a6)) | skip
  refine ⟨⟨⟨congrArg (· + 1) e0, e1, e2, e3⟩, fun p hp => ?_, hG, hT, hK, ?_⟩, by rw [e0]⟩
  · have hp : p < rs_n zr 0 + 1 := hp
    show (va_up (cs_I zc 11) (cs_n zc 0) x p = upd (rs_I zr 12) (rs_n zr 0) x p ∧ va_up (cs_I zc 12) (cs_n zc 0) y p = upd (rs_I zr 13) (rs_n zr 0) y p ∧ va_up (cs_I zc 13) (cs_n zc 0) xx p = upd (rs_I zr 14) (rs_n zr 0) xx p ∧ va_up (cs_I zc 14) (cs_n zc 0) yy p = upd (rs_I zr 15) (rs_n zr 0) yy p ∧ va_up (cs_I zc 15) (cs_n zc 0) tn p = upd (rs_I zr 16) (rs_n zr 0) tn p) ∧ (1 ≤ (upd (rs_I zr 16) (rs_n zr 0) tn p).toInt ∧ (upd (rs_I zr 16) (rs_n zr 0) tn p).toInt ≤ 100) ∧ va_up (cs_I zc 16) (cs_n zc 0) 0 p = nI (fa_cnt (fun t => decide (rs_I zr 26 t = nI p)) (rs_n zr 2)) ∧ ((va_up (cs_N zc 0) (cs_n zc 0) 0 p = 0 ∧ ∀ t, t < rs_n zr 2 → ¬ unl zr p t) ∨ ∃ t, t < rs_n zr 2 ∧ va_up (cs_N zc 0) (cs_n zc 0) 0 p = t + 1 ∧ unl zr p t ∧ ∀ t', t' < rs_n zr 2 → unl zr p t' → t' = t)
    by_cases z : p = rs_n zr 0
    · subst z
      have hno : ∀ t, t < rs_n zr 2 → ¬ rs_I zr 26 t = nI (rs_n zr 0) := fun t ht w => by
        obtain ⟨_, p, hp, ep⟩ := htk t ht
        have := (nI_eq (by omega) (by omega)).mp (ep.symm.trans w)
        omega
      rw [e0]
      simp only [va_up_self, pk_us]
      refine ⟨⟨trivial, trivial, trivial, trivial, trivial⟩, ⟨(fa_le _ _).mp a5.1, (fa_le _ _).mp a5.2⟩, ?_, Or.inl ⟨trivial, fun t ht w => hno t ht w.1⟩⟩
      rw [cnt_0 _ (fun t ht => decide_eq_false (hno t ht))]
      rfl
    · rw [e0]
      simp only [va_up_ne _ _ z, pk_un z]
      exact hP p (by omega)
  · rcases hA with hA | ⟨p, x1, x2, x3, x4, x5, x6, x7, x8, x9⟩
    · exact Or.inl hA
    · refine Or.inr ⟨p, (show p < rs_n zr 0 + 1 by omega), x2, x3, x4, x5, x6, x7, ?_, x9⟩
      show va_up (cs_N zc 0) (cs_n zc 0) 0 p = 0
      rw [va_up_ne _ _ (by omega)]; exact x8
theorem stD_parcel {zc u : CS} {zr v : RS2} {t tn gd r r' : Int32} (hI : invC zc) (h : relD zc zr) (hc : pC_parcel zc t tn gd r u) (hr : pR_parcel zr t tn gd r' v) : relD u v ∧ r = r' := by
  have hb := dn2 hI h
  obtain ⟨⟨e0, e1, e2, e3⟩, hP, hG, hT, hK, hA⟩ := id h
  have e80 : ∀ n, n ≤ 80 → (nI n < 80 ↔ ¬ nI n = 80) := by decide
  have c80 := e80 (rs_n zr 3) hb.2.2.2
  rcases hc with ⟨a1, rfl, rfl⟩ | ⟨jt, rfl, a1, a2, rfl, rfl⟩ | ⟨jt, rfl, a1, a2, a3, a4, a5, a6, q, rfl, rfl⟩ | ⟨jt, rfl, a1, a2, a3, a4, a5, rfl, rfl⟩ | ⟨jt, rfl, a1, a2, a3, a4, rfl, rfl⟩ | ⟨jt, rfl, a1, a2, a3, rfl, rfl⟩
  · rcases hr with ⟨b1, rfl, rfl⟩ | ⟨j, e, b1, _⟩ | ⟨j, e, b1, _⟩ | ⟨j, e, b1, _⟩ | ⟨j, e, b1, _⟩ | ⟨j, e, b1, _⟩
    · exact ⟨h, rfl⟩
    all_goals exact absurd e (a1 j (e2 ▸ b1))
  all_goals
    have hjt : jt < rs_n zr 2 := e2 ▸ a1
    have hst := (hT.1 jt hjt).1.2.2.2.1
    rcases hr with ⟨b1, rfl, rfl⟩ | ⟨j, e, b1, b2, rfl, rfl⟩ | ⟨j, e, b1, b2, b3, b4, b5, b6, rfl, rfl⟩ | ⟨j, e, b1, b2, b3, b4, b5, rfl, rfl⟩ | ⟨j, e, b1, b2, b3, b4, rfl, rfl⟩ | ⟨j, e, b1, b2, b3, rfl, rfl⟩
    · exact absurd rfl (b1 jt hjt)
    all_goals obtain rfl := ix_n (by omega) hjt b1 e
    all_goals first | exact ⟨h, rfl⟩ | contradiction | exact absurd (hst ▸ a4) b4 | exact absurd (hst ▸ b4) a4 | exact absurd b5 (c80.mp (e3 ▸ a5)) | exact absurd (c80.mpr b5) (e3 ▸ a5) | skip
  refine ⟨⟨⟨e0, e1, e2, congrArg (· + 1) e3⟩, hP, hG, ⟨fun t ht => ?_, hT.2⟩, fun k hk => ?_, hA⟩, by rw [e3]⟩
  · obtain ⟨⟨y1, y2, y3, y4, y5⟩, ⟨w1, w2, w3, w4, w5, w6⟩, y7⟩ := hT.1 t ht
    refine ⟨⟨y1, y2, y3, y4, ?_⟩, ⟨w1, w2, ?_, w4, w5, w6⟩, y7⟩
    · show va_up (cs_I zc 32) jt (cs_I zc 32 jt + 1) t = nI (fa_cnt (fun k => decide (upd (rs_I zr 35) (rs_n zr 3) (nI jt) k = nI t)) (rs_n zr 3 + 1))
      have hcg : fa_cnt (fun k => decide (upd (rs_I zr 35) (rs_n zr 3) (nI jt) k = nI t)) (rs_n zr 3) = fa_cnt (fun k => decide (rs_I zr 35 k = nI t)) (rs_n zr 3) := fa_cnt_cong (fun k hk => by rw [pk_un (by omega)])
      by_cases z : t = jt
      · subst z
        rw [va_up_self, fa_cnt_yes (by rw [pk_us]; exact decide_eq_true rfl), hcg, y5]; exact nI_1 _
      · have ht' : t < rs_n zr 2 := ht
        rw [va_up_ne _ _ z, fa_cnt_no (by rw [pk_us]; exact decide_eq_false (fun w => z (ix_n (by omega) ht' hjt w.symm))), hcg]; exact y5
    · show va_up (cs_L zc 3) jt (cs_L zc 3 jt + tn.toInt64 * gd.toInt64) t = wsum (upd (rs_I zr 35) (rs_n zr 3) (nI jt)) (upd (rs_I zr 36) (rs_n zr 3) tn) (upd (rs_I zr 37) (rs_n zr 3) gd) (nI t) (rs_n zr 3 + 1)
      rw [wsum, pk_us, pk_us, pk_us, wsum_cg (rs_n zr 3) (fun k hk => ⟨pk_un (by omega), pk_un (by omega), pk_un (by omega)⟩)]
      by_cases z : t = jt
      · subst z; rw [va_up_self, if_pos rfl, w3]
      · have ht' : t < rs_n zr 2 := ht
        rw [va_up_ne _ _ z, if_neg (fun w => z (ix_n (by omega) ht' hjt w.symm)), w3]; exact (Int64.add_zero _).symm
  · have hk : k < rs_n zr 3 + 1 := hk
    show va_up (cs_I zc 40) (cs_n zc 3) gd k = upd (rs_I zr 37) (rs_n zr 3) gd k ∧ ∃ t, t < rs_n zr 2 ∧ upd (rs_I zr 35) (rs_n zr 3) (nI jt) k = nI t ∧ va_up (cs_N zc 4) (cs_n zc 3) (cs_N zc 3 jt) k = cs_N zc 3 t
    rw [e3]
    by_cases z : k = rs_n zr 3
    · subst z; rw [va_up_self, va_up_self, pk_us, pk_us]; exact ⟨rfl, jt, hjt, rfl, rfl⟩
    · rw [va_up_ne _ _ z, va_up_ne _ _ z, pk_un z, pk_un z]; exact hK k (by omega)
theorem pay_eq (x : Int64) : (if 0 < x then x else 0) = sPay x := by
  unfold sPay
  by_cases h : 0 < x
  · rw [if_pos h, if_pos (Int64.le_of_lt h)]
  · rw [if_neg h]
    by_cases q : 0 ≤ x
    · rw [if_pos q]; exact Int64.le_antisymm q (Int64.not_lt.mp h)
    · rw [if_neg q]
theorem debt_eq (d x o : Int64) : d + (((if 0 < x then x else 0) - x) - o) = (d - o) + (if 0 ≤ x then 0 else -x) := by
  rw [pay_eq]
  unfold sPay
  by_cases q : 0 ≤ x
  · rw [if_pos q, if_pos q]; simp [Int64.sub_eq_add_neg, Int64.add_right_neg]
  · rw [if_neg q, if_neg q]; simp only [Int64.sub_eq_add_neg, Int64.zero_add]; rw [← Int64.add_assoc, Int64.add_comm d, Int64.add_assoc, Int64.add_comm (-x)]
theorem settle_C {zc u : CS} {t : Int32} {r : Int64} (hc : pC_settle zc t r u) : (((∀ j, j < cs_n zc 2 → t ≠ nI j) ∨ ∃ jt, t = nI jt ∧ jt < cs_n zc 2 ∧ ¬ cs_I zc 33 jt = 0) ∧ r = -9223372036854775808 ∧ u = zc) ∨ ∃ jt, t = nI jt ∧ jt < cs_n zc 2 ∧ cs_I zc 33 jt = 0 ∧ r = sPay (sX (kI (cs_N zc 1 (cs_N zc 2 jt))) (cs_I zc 31 jt) (cs_L zc 3 jt) (cs_L zc 4 jt) (cs_L zc 5 jt) (cs_L zc 0 (cs_N zc 2 jt))) ∧ u = (cs_i zc, cs_n zc, va_up (va_up (cs_I zc) 33 (va_up (cs_I zc 33) jt 1)) 22 (va_up (cs_I zc 22) (cs_N zc 2 jt) ((cs_I zc 22 (cs_N zc 2 jt)) - 1)), va_up (va_up (cs_L zc) 6 (va_up (cs_L zc 6) jt (sPay (sX (kI (cs_N zc 1 (cs_N zc 2 jt))) (cs_I zc 31 jt) (cs_L zc 3 jt) (cs_L zc 4 jt) (cs_L zc 5 jt) (cs_L zc 0 (cs_N zc 2 jt)))))) 0 (va_up (cs_L zc 0) (cs_N zc 2 jt) (sDe (kI (cs_N zc 1 (cs_N zc 2 jt))) (cs_L zc 0 (cs_N zc 2 jt)) (sX (kI (cs_N zc 1 (cs_N zc 2 jt))) (cs_I zc 31 jt) (cs_L zc 3 jt) (cs_L zc 4 jt) (cs_L zc 5 jt) (cs_L zc 0 (cs_N zc 2 jt))))), va_up (cs_N zc) 0 (va_up (cs_N zc 0) (cs_N zc 3 jt) 0), cs_S zc, cs_X zc) := by
  rcases hc with ⟨x0, rfl, rfl⟩ | ⟨jt, e_t, x2, x3, x4, rfl, rfl⟩ | ⟨jt, e_t, x2, x3, x4, rfl, rfl⟩ | ⟨jt, e_t, x2, x3, x4, rfl, rfl⟩ | ⟨jt, e_t, x2, x3, x4, rfl, rfl⟩ | ⟨jt, e_t, x2, x3, x4, rfl, rfl⟩ | ⟨jt, e_t, x2, x3, x4, rfl, rfl⟩
  · exact Or.inl ⟨Or.inl x0, rfl, rfl⟩
  · have ek : (kI (cs_N zc 1 (cs_N zc 2 jt))) = 1 := by rw [x3]; rfl
    have eo : sOw (kI (cs_N zc 1 (cs_N zc 2 jt))) (cs_L zc 0 (cs_N zc 2 jt)) = (cs_L zc 0 (cs_N zc 2 jt)) := by rw [ek]; rfl
    have ex : (sX (kI (cs_N zc 1 (cs_N zc 2 jt))) (cs_I zc 31 jt) (cs_L zc 3 jt) (cs_L zc 4 jt) (cs_L zc 5 jt) (cs_L zc 0 (cs_N zc 2 jt))) = ((((((cs_I zc 31 jt).toInt64 * (cs_L zc 3 jt)) / 240) - ((cs_L zc 4 jt) / 2)) - (cs_L zc 5 jt)) - (cs_L zc 0 (cs_N zc 2 jt))) := sX_of (by rw [ek]; rfl) eo
    have e1 : sPay (sX (kI (cs_N zc 1 (cs_N zc 2 jt))) (cs_I zc 31 jt) (cs_L zc 3 jt) (cs_L zc 4 jt) (cs_L zc 5 jt) (cs_L zc 0 (cs_N zc 2 jt))) = (if 0 < ((((((cs_I zc 31 jt).toInt64 * (cs_L zc 3 jt)) / 240) - ((cs_L zc 4 jt) / 2)) - (cs_L zc 5 jt)) - (cs_L zc 0 (cs_N zc 2 jt))) then ((((((cs_I zc 31 jt).toInt64 * (cs_L zc 3 jt)) / 240) - ((cs_L zc 4 jt) / 2)) - (cs_L zc 5 jt)) - (cs_L zc 0 (cs_N zc 2 jt))) else 0) := by rw [← pay_eq, ex]
    have e2 : sDe (kI (cs_N zc 1 (cs_N zc 2 jt))) (cs_L zc 0 (cs_N zc 2 jt)) (sX (kI (cs_N zc 1 (cs_N zc 2 jt))) (cs_I zc 31 jt) (cs_L zc 3 jt) (cs_L zc 4 jt) (cs_L zc 5 jt) (cs_L zc 0 (cs_N zc 2 jt))) = (cs_L zc 0 (cs_N zc 2 jt)) + (((if 0 < ((((((cs_I zc 31 jt).toInt64 * (cs_L zc 3 jt)) / 240) - ((cs_L zc 4 jt) / 2)) - (cs_L zc 5 jt)) - (cs_L zc 0 (cs_N zc 2 jt))) then ((((((cs_I zc 31 jt).toInt64 * (cs_L zc 3 jt)) / 240) - ((cs_L zc 4 jt) / 2)) - (cs_L zc 5 jt)) - (cs_L zc 0 (cs_N zc 2 jt))) else 0) - ((((((cs_I zc 31 jt).toInt64 * (cs_L zc 3 jt)) / 240) - ((cs_L zc 4 jt) / 2)) - (cs_L zc 5 jt)) - (cs_L zc 0 (cs_N zc 2 jt)))) - ((cs_L zc 0 (cs_N zc 2 jt)))) := by rw [sDe, debt_eq, eo, ex]
    exact Or.inr ⟨jt, e_t, x2, x4, e1.symm, by rw [e1, e2]⟩
  · exact Or.inl ⟨Or.inr ⟨jt, e_t, x2, x4⟩, rfl, rfl⟩
  · have ek : (kI (cs_N zc 1 (cs_N zc 2 jt))) = 0 := by rw [x3]; rfl
    have eo : sOw (kI (cs_N zc 1 (cs_N zc 2 jt))) (cs_L zc 0 (cs_N zc 2 jt)) = (cs_L zc 0 (cs_N zc 2 jt)) := by rw [ek]; rfl
    have ex : (sX (kI (cs_N zc 1 (cs_N zc 2 jt))) (cs_I zc 31 jt) (cs_L zc 3 jt) (cs_L zc 4 jt) (cs_L zc 5 jt) (cs_L zc 0 (cs_N zc 2 jt))) = ((((((cs_I zc 31 jt).toInt64 * (cs_L zc 3 jt)) / 240) - (cs_L zc 4 jt)) - (cs_L zc 5 jt)) - (cs_L zc 0 (cs_N zc 2 jt))) := sX_of (by rw [ek]; rfl) eo
    have e1 : sPay (sX (kI (cs_N zc 1 (cs_N zc 2 jt))) (cs_I zc 31 jt) (cs_L zc 3 jt) (cs_L zc 4 jt) (cs_L zc 5 jt) (cs_L zc 0 (cs_N zc 2 jt))) = (if 0 < ((((((cs_I zc 31 jt).toInt64 * (cs_L zc 3 jt)) / 240) - (cs_L zc 4 jt)) - (cs_L zc 5 jt)) - (cs_L zc 0 (cs_N zc 2 jt))) then ((((((cs_I zc 31 jt).toInt64 * (cs_L zc 3 jt)) / 240) - (cs_L zc 4 jt)) - (cs_L zc 5 jt)) - (cs_L zc 0 (cs_N zc 2 jt))) else 0) := by rw [← pay_eq, ex]
    have e2 : sDe (kI (cs_N zc 1 (cs_N zc 2 jt))) (cs_L zc 0 (cs_N zc 2 jt)) (sX (kI (cs_N zc 1 (cs_N zc 2 jt))) (cs_I zc 31 jt) (cs_L zc 3 jt) (cs_L zc 4 jt) (cs_L zc 5 jt) (cs_L zc 0 (cs_N zc 2 jt))) = (cs_L zc 0 (cs_N zc 2 jt)) + (((if 0 < ((((((cs_I zc 31 jt).toInt64 * (cs_L zc 3 jt)) / 240) - (cs_L zc 4 jt)) - (cs_L zc 5 jt)) - (cs_L zc 0 (cs_N zc 2 jt))) then ((((((cs_I zc 31 jt).toInt64 * (cs_L zc 3 jt)) / 240) - (cs_L zc 4 jt)) - (cs_L zc 5 jt)) - (cs_L zc 0 (cs_N zc 2 jt))) else 0) - ((((((cs_I zc 31 jt).toInt64 * (cs_L zc 3 jt)) / 240) - (cs_L zc 4 jt)) - (cs_L zc 5 jt)) - (cs_L zc 0 (cs_N zc 2 jt)))) - ((cs_L zc 0 (cs_N zc 2 jt)))) := by rw [sDe, debt_eq, eo, ex]
    exact Or.inr ⟨jt, e_t, x2, x4, e1.symm, by rw [e1, e2]⟩
  · exact Or.inl ⟨Or.inr ⟨jt, e_t, x2, x4⟩, rfl, rfl⟩
  · have ek : (kI (cs_N zc 1 (cs_N zc 2 jt))) = 2 := by rw [x3]; rfl
    have eo : sOw (kI (cs_N zc 1 (cs_N zc 2 jt))) (cs_L zc 0 (cs_N zc 2 jt)) = (cs_L zc 0 (cs_N zc 2 jt)) / 2 := by rw [ek]; rfl
    have ex : (sX (kI (cs_N zc 1 (cs_N zc 2 jt))) (cs_I zc 31 jt) (cs_L zc 3 jt) (cs_L zc 4 jt) (cs_L zc 5 jt) (cs_L zc 0 (cs_N zc 2 jt))) = ((((((cs_I zc 31 jt).toInt64 * (cs_L zc 3 jt)) / 240) - ((cs_L zc 4 jt) / 2)) - (cs_L zc 5 jt)) - ((cs_L zc 0 (cs_N zc 2 jt)) / 2)) := sX_of (by rw [ek]; rfl) eo
    have e1 : sPay (sX (kI (cs_N zc 1 (cs_N zc 2 jt))) (cs_I zc 31 jt) (cs_L zc 3 jt) (cs_L zc 4 jt) (cs_L zc 5 jt) (cs_L zc 0 (cs_N zc 2 jt))) = (if 0 < ((((((cs_I zc 31 jt).toInt64 * (cs_L zc 3 jt)) / 240) - ((cs_L zc 4 jt) / 2)) - (cs_L zc 5 jt)) - ((cs_L zc 0 (cs_N zc 2 jt)) / 2)) then ((((((cs_I zc 31 jt).toInt64 * (cs_L zc 3 jt)) / 240) - ((cs_L zc 4 jt) / 2)) - (cs_L zc 5 jt)) - ((cs_L zc 0 (cs_N zc 2 jt)) / 2)) else 0) := by rw [← pay_eq, ex]
    have e2 : sDe (kI (cs_N zc 1 (cs_N zc 2 jt))) (cs_L zc 0 (cs_N zc 2 jt)) (sX (kI (cs_N zc 1 (cs_N zc 2 jt))) (cs_I zc 31 jt) (cs_L zc 3 jt) (cs_L zc 4 jt) (cs_L zc 5 jt) (cs_L zc 0 (cs_N zc 2 jt))) = (cs_L zc 0 (cs_N zc 2 jt)) + (((if 0 < ((((((cs_I zc 31 jt).toInt64 * (cs_L zc 3 jt)) / 240) - ((cs_L zc 4 jt) / 2)) - (cs_L zc 5 jt)) - ((cs_L zc 0 (cs_N zc 2 jt)) / 2)) then ((((((cs_I zc 31 jt).toInt64 * (cs_L zc 3 jt)) / 240) - ((cs_L zc 4 jt) / 2)) - (cs_L zc 5 jt)) - ((cs_L zc 0 (cs_N zc 2 jt)) / 2)) else 0) - ((((((cs_I zc 31 jt).toInt64 * (cs_L zc 3 jt)) / 240) - ((cs_L zc 4 jt) / 2)) - (cs_L zc 5 jt)) - ((cs_L zc 0 (cs_N zc 2 jt)) / 2))) - ((cs_L zc 0 (cs_N zc 2 jt)) / 2)) := by rw [sDe, debt_eq, eo, ex]
    exact Or.inr ⟨jt, e_t, x2, x4, e1.symm, by rw [e1, e2]⟩
  · exact Or.inl ⟨Or.inr ⟨jt, e_t, x2, x4⟩, rfl, rfl⟩
theorem stD_settle {zc u : CS} {zr v : RS2} {t : Int32} {r r' : Int64} (hI : invC zc) (hKA : relA zc zr) (h : relD zc zr) (hc : pC_settle zc t r u) (hr : pR_settle zr t r' v) : relD u v ∧ r = r' := by
  have hb := dn2 hI h
  obtain ⟨⟨e0, e1, e2, e3⟩, hP, hG, hT, hK, hA⟩ := id h
  rcases settle_C hc with ⟨a1, rfl, rfl⟩ | ⟨jt, rfl, a1, a2, rfl, rfl⟩
  · rcases settle_R hr with ⟨b1, rfl, rfl⟩ | ⟨j, jg, rfl, b1, b2, _⟩
    · exact ⟨h, rfl⟩
    · rcases a1 with a1 | ⟨jt, e, a1, a2⟩
      · exact absurd rfl (a1 j (e2 ▸ b1))
      · obtain rfl := ix_n (by omega) b1 (e2 ▸ a1) e
        exact absurd ((hT.1 j b1).1.2.2.2.1.trans b2) a2
  have hjt : jt < rs_n zr 2 := e2 ▸ a1
  obtain ⟨⟨y1, y2, y3, y4, y5⟩, ⟨w1, w2, w3, w4, w5, w6⟩, y7⟩ := hT.1 jt hjt
  rcases settle_R hr with ⟨b1, rfl, rfl⟩ | ⟨j, jg, e, b1, b2, b3, b4, rfl, rfl⟩
  · rcases b1 with b1 | ⟨j, e, b1, b2⟩
    · exact absurd rfl (b1 jt hjt)
    · obtain rfl := ix_n (by omega) hjt b1 e
      exact absurd (y4 ▸ a2) b2
  obtain rfl := ix_n (by omega) hjt b1 e
  have htk := hI.2.2.2.1 jt a1
  obtain rfl : jg = cs_N zc 2 jt := (nI_eq (by omega) (by omega)).mp (b4.symm.trans y1)
  have hkd := relA_k hKA htk.1
  have hd : cs_L zc 0 (cs_N zc 2 jt) = rs_L zr 19 (cs_N zc 2 jt) := (hG.1 _ b3).2.2
  have ex : sX (kI (cs_N zc 1 (cs_N zc 2 jt))) (cs_I zc 31 jt) (cs_L zc 3 jt) (cs_L zc 4 jt) (cs_L zc 5 jt) (cs_L zc 0 (cs_N zc 2 jt)) = sX (rs_I zr 18 (cs_N zc 2 jt)) (rs_I zr 27 jt) (wsum (rs_I zr 35) (rs_I zr 36) (rs_I zr 37) (nI jt) (rs_n zr 3)) (rs_L zr 31 jt) (rs_L zr 32 jt) (rs_L zr 19 (cs_N zc 2 jt)) := by
    rw [hkd, y3, w3, w4, w5, hd]
  have hun : ∀ p t : Nat, t ≠ jt → ((rs_I zr 26 t = nI p ∧ upd (rs_I zr 28) jt 1 t = 0) ↔ unl zr p t) := fun p t hne => by rw [pk_un hne]; exact Iff.rfl
  have hjn : ∀ p : Nat, ¬ (rs_I zr 26 jt = nI p ∧ upd (rs_I zr 28) jt 1 jt = 0) := fun p q => by rw [pk_us] at q; exact absurd q.2 (by decide)
  refine ⟨⟨⟨e0, e1, e2, e3⟩, fun p hp => ?_, ⟨fun g hg => ?_, fun g hg => ?_⟩, ⟨fun t ht => ?_, fun t ht => ?_⟩, hK, ?_⟩, by rw [ex]⟩
  · have hp : p < rs_n zr 0 := hp
    obtain ⟨z1, z2, z3, z4⟩ := hP p hp
    refine ⟨z1, z2, z3, ?_⟩
    show (va_up (cs_N zc 0) (cs_N zc 3 jt) 0 p = 0 ∧ ∀ t, t < rs_n zr 2 → ¬ (rs_I zr 26 t = nI p ∧ upd (rs_I zr 28) jt 1 t = 0)) ∨ ∃ t, t < rs_n zr 2 ∧ va_up (cs_N zc 0) (cs_N zc 3 jt) 0 p = t + 1 ∧ (rs_I zr 26 t = nI p ∧ upd (rs_I zr 28) jt 1 t = 0) ∧ ∀ t', t' < rs_n zr 2 → (rs_I zr 26 t' = nI p ∧ upd (rs_I zr 28) jt 1 t' = 0) → t' = t
    by_cases q : p = cs_N zc 3 jt
    · subst q
      left
      refine ⟨va_up_self _ _ _, fun t ht z => ?_⟩
      by_cases qt : t = jt
      · subst qt; exact hjn _ z
      · rcases z4 with ⟨_, z5⟩ | ⟨t0, _, _, _, z6⟩
        · exact z5 jt hjt ⟨y2, b2⟩
        · have q1 := z6 jt hjt ⟨y2, b2⟩
          have q2 := z6 t ht ((hun _ t qt).mp z)
          omega
    · rw [va_up_ne _ _ q]
      have hne : ∀ t, unl zr p t → t ≠ jt := fun t z qt => by
        subst qt
        exact q ((nI_eq (by omega) (by omega)).mp (z.1.symm.trans y2))
      rcases z4 with ⟨z5, z6⟩ | ⟨t0, z5, z6, z7, z8⟩
      · refine Or.inl ⟨z5, fun t ht z => ?_⟩
        by_cases qt : t = jt
        · subst qt; exact hjn _ z
        · exact z6 t ht ((hun _ t qt).mp z)
      · refine Or.inr ⟨t0, z5, z6, (hun _ t0 (hne t0 z7)).mpr z7, fun t' ht' z => ?_⟩
        by_cases qt : t' = jt
        · subst qt; exact absurd z (hjn _)
        · exact z8 t' ht' ((hun _ t' qt).mp z)
  · have hg : g < rs_n zr 1 := hg
    obtain ⟨z1, z2, z3⟩ := hG.1 g hg
    refine ⟨z1, ?_, ?_⟩
    · show va_up (cs_I zc 22) (cs_N zc 2 jt) (cs_I zc 22 (cs_N zc 2 jt) - 1) g = nI (fa_cnt (fun t => decide (rs_I zr 25 t = nI g ∧ upd (rs_I zr 28) jt 1 t = 0)) (rs_n zr 2))
      by_cases q : g = cs_N zc 2 jt
      · subst q
        rw [va_up_self, z2, cnt_off (P := fun t => decide (rs_I zr 25 t = nI (cs_N zc 2 jt) ∧ rs_I zr 28 t = 0)) (Q := fun t => decide (rs_I zr 25 t = nI (cs_N zc 2 jt) ∧ upd (rs_I zr 28) jt 1 t = 0)) (j := jt) (decide_eq_true ⟨y1, b2⟩) (decide_eq_false (fun z => by rw [pk_us] at z; exact absurd z.2 (by decide))) (rs_n zr 2) hjt (fun k hk hne => by rw [pk_un hne])]
        exact nI_pred _
      · rw [va_up_ne _ _ q, z2]
        refine congrArg nI (fa_cnt_cong fun k hk => ?_)
        by_cases qk : k = jt
        · subst qk
          have w : ¬ rs_I zr 25 k = nI g := fun z => q ((nI_eq (by omega) (by omega)).mp (z.symm.trans y1))
          rw [decide_eq_false (fun z => w z.1), decide_eq_false (fun z => w z.1)]
        · rw [pk_un qk]
    · show va_up (cs_L zc 0) (cs_N zc 2 jt) (sDe (kI (cs_N zc 1 (cs_N zc 2 jt))) (cs_L zc 0 (cs_N zc 2 jt)) (sX (kI (cs_N zc 1 (cs_N zc 2 jt))) (cs_I zc 31 jt) (cs_L zc 3 jt) (cs_L zc 4 jt) (cs_L zc 5 jt) (cs_L zc 0 (cs_N zc 2 jt)))) g = vp_updL (rs_L zr 19) (cs_N zc 2 jt) (sDe (rs_I zr 18 (cs_N zc 2 jt)) (rs_L zr 19 (cs_N zc 2 jt)) (sX (rs_I zr 18 (cs_N zc 2 jt)) (rs_I zr 27 jt) (wsum (rs_I zr 35) (rs_I zr 36) (rs_I zr 37) (nI jt) (rs_n zr 3)) (rs_L zr 31 jt) (rs_L zr 32 jt) (rs_L zr 19 (cs_N zc 2 jt)))) g
      by_cases q : g = cs_N zc 2 jt
      · subst q; rw [va_up_self, pk_uLs, ex, ← hkd, hd]
      · rw [va_up_ne _ _ q, pk_uLn q]; exact z3
  · have hg : rs_n zr 1 ≤ g := hg
    show vp_updL (rs_L zr 19) (cs_N zc 2 jt) _ g = 0
    rw [pk_uLn (by omega)]; exact hG.2 g hg
  · have ht : t < rs_n zr 2 := ht
    obtain ⟨⟨u1, u2, u3, u4, u5⟩, ⟨s1, s2, s3, s4, s5, s6⟩, u7⟩ := hT.1 t ht
    refine ⟨⟨u1, u2, u3, ?_, u5⟩, ⟨s1, s2, s3, s4, s5, ?_⟩, u7⟩
    · show va_up (cs_I zc 33) jt 1 t = upd (rs_I zr 28) jt 1 t
      by_cases q : t = jt
      · subst q; rw [va_up_self, pk_us]
      · rw [va_up_ne _ _ q, pk_un q]; exact u4
    · show va_up (cs_L zc 6) jt (sPay (sX (kI (cs_N zc 1 (cs_N zc 2 jt))) (cs_I zc 31 jt) (cs_L zc 3 jt) (cs_L zc 4 jt) (cs_L zc 5 jt) (cs_L zc 0 (cs_N zc 2 jt)))) t = vp_updL (rs_L zr 33) jt (sPay (sX (rs_I zr 18 (cs_N zc 2 jt)) (rs_I zr 27 jt) (wsum (rs_I zr 35) (rs_I zr 36) (rs_I zr 37) (nI jt) (rs_n zr 3)) (rs_L zr 31 jt) (rs_L zr 32 jt) (rs_L zr 19 (cs_N zc 2 jt)))) t
      by_cases q : t = jt
      · subst q; rw [va_up_self, pk_uLs, ex]
      · rw [va_up_ne _ _ q, pk_uLn q]; exact s6
  · have ht : rs_n zr 2 ≤ t := ht
    obtain ⟨z1, z2, z3, z4⟩ := hT.2 t ht
    refine ⟨?_, z2, z3, ?_⟩
    · show upd (rs_I zr 28) jt 1 t = 0
      rw [pk_un (by omega)]; exact z1
    · show vp_updL (rs_L zr 33) jt _ t = 0
      rw [pk_uLn (by omega)]; exact z4
  · rcases hA with hA | ⟨p, x1, x2, x3, x4, x5, x6, x7, x8, x9⟩
    · exact Or.inl hA
    · refine Or.inr ⟨p, x1, x2, x3, x4, x5, x6, x7, ?_, x9⟩
      show va_up (cs_N zc 0) (cs_N zc 3 jt) 0 p = 0
      by_cases q : p = cs_N zc 3 jt
      · rw [q, va_up_self]
      · rw [va_up_ne _ _ q]; exact x8
theorem fsum_rg {P : Nat → Bool} {g : Nat → Int32} (hg : rngL g) : ∀ n, n ≤ 48 → 0 ≤ (fsum P g n).toInt ∧ (fsum P g n).toInt ≤ 1000 * n
  | 0, _ => by
    show 0 ≤ (0 : Int64).toInt ∧ (0 : Int64).toInt ≤ 1000 * ((0 : Nat) : Int)
    decide
  | n + 1, hn => by
    have ih := fsum_rg (P := P) hg n (by omega)
    have r := hg n (by omega)
    rw [fsum]
    by_cases h : P n = true
    · rw [if_pos h, Int64.toInt_add, Int32.toInt_toInt64, Int.bmod_eq_of_le (by omega) (by omega)]
      omega
    · rw [if_neg h, Int64.toInt_add, show (0 : Int64).toInt = 0 by decide, Int.bmod_eq_of_le (by omega) (by omega)]
      omega
theorem tons_rg {s : Int64} {t : Int32} (hs : 0 ≤ s.toInt ∧ s.toInt ≤ 48000) (ht : 1 ≤ t.toInt ∧ t.toInt ≤ 100) : 0 ≤ (s * t.toInt64).toInt ∧ (s * t.toInt64).toInt ≤ 5000000 := by
  have h1 : 0 ≤ s.toInt * t.toInt := Int.mul_nonneg hs.1 (by omega)
  have h2 : s.toInt * t.toInt ≤ 48000 * 100 := Int.mul_le_mul hs.2 ht.2 (by omega) (by omega)
  rw [Int64.toInt_mul, Int32.toInt_toInt64, Int.bmod_eq_of_le (by omega) (by omega)]
  omega
theorem strike_C {zc u : CS} {r : Int32} (hI : invC zc) (hc : pC_strike zc r u) : (cs_n zc 4 = 0 ∧ r = -3 ∧ u = zc) ∨ ∃ p, cs_n zc 4 = p + 1 ∧ ((cs_n zc 5 = 0 ∧ r = -9 ∧ u = (cs_i zc, va_up (cs_n zc) 4 0, cs_I zc, cs_L zc, cs_N zc, cs_S zc, cs_X zc)) ∨ ∃ g, cs_n zc 5 = g + 1 ∧ ((¬ nI (cs_n zc 2) < 40 ∧ r = -4 ∧ u = zc) ∨ (nI (cs_n zc 2) < 40 ∧ cs_n zc 2 < 40 ∧ r = nI (cs_n zc 2) ∧ ∃ qt : Nat, u = (cs_i zc, va_up (va_up (cs_n zc) 2 (cs_n zc 2 + 1)) 4 0, va_up (va_up (va_up (va_up (va_up (va_up (cs_I zc) 16 (va_up (cs_I zc 16) p ((cs_I zc 16 p) + 1))) 21 (va_up (cs_I zc 21) g ((cs_I zc 21 g) + 1))) 22 (va_up (cs_I zc 22) g ((cs_I zc 22 g) + 1))) 31 (va_up (cs_I zc 31) (cs_n zc 2) (cs_i zc 3))) 32 (va_up (cs_I zc 32) (cs_n zc 2) 0)) 33 (va_up (cs_I zc 33) (cs_n zc 2) 0), va_up (va_up (va_up (va_up (va_up (va_up (cs_L zc) 1 (va_up (cs_L zc 1) (cs_n zc 2) (pacc (cs_I zc 0) (rXa zc p) (rWa zc p) (rYa zc p) (rHa zc p + 1) * (cs_I zc 15 p).toInt64))) 2 (va_up (cs_L zc 2) (cs_n zc 2) (pacc (cs_I zc 1) (rXa zc p) (rWa zc p) (rYa zc p) (rHa zc p + 1) * (cs_I zc 15 p).toInt64))) 3 (va_up (cs_L zc 3) (cs_n zc 2) 0)) 4 (va_up (cs_L zc 4) (cs_n zc 2) 0)) 5 (va_up (cs_L zc 5) (cs_n zc 2) 0)) 6 (va_up (cs_L zc 6) (cs_n zc 2) 0), va_up (va_up (va_up (cs_N zc) 0 (va_up (cs_N zc 0) p (cs_n zc 2 + 1))) 2 (va_up (cs_N zc 2) (cs_n zc 2) g)) 3 (va_up (cs_N zc 3) (cs_n zc 2) p), cs_S zc, va_up (cs_X zc) 3 (va_up (cs_X zc 3) (cs_n zc 2) qt))))) := by
  rcases hc with ⟨a1, rfl, rfl⟩ | ⟨a1, a2, rfl, rfl⟩ | ⟨a1, a2, a3, a4, a5, r3, rfl, r4, rfl, qt, rfl, rfl⟩ | ⟨a1, a2, a3, a4, rfl, eu⟩ | ⟨a1, a2, a3, a4, a5, r3, rfl, r4, rfl, qt, rfl, rfl⟩ | ⟨a1, a2, a3, a4, rfl, eu⟩ | ⟨a1, a2, a3, a4, a5, r3, rfl, r4, rfl, qt, rfl, rfl⟩ | ⟨a1, a2, a3, a4, rfl, eu⟩
  · exact Or.inl ⟨a1, rfl, rfl⟩
  · exact Or.inr ⟨cs_n zc 4 - 1, by omega, Or.inl ⟨a2, rfl, rfl⟩⟩
  · exact Or.inr ⟨cs_n zc 4 - 1, by omega, Or.inr ⟨cs_n zc 5 - 1, by omega, Or.inr ⟨a4, a5, rfl, qt, rfl⟩⟩⟩
  · exact Or.inr ⟨cs_n zc 4 - 1, by omega, Or.inr ⟨cs_n zc 5 - 1, by omega, Or.inl ⟨a4, rfl, eu⟩⟩⟩
  · exact Or.inr ⟨cs_n zc 4 - 1, by omega, Or.inr ⟨cs_n zc 5 - 1, by omega, Or.inr ⟨a4, a5, rfl, qt, rfl⟩⟩⟩
  · exact Or.inr ⟨cs_n zc 4 - 1, by omega, Or.inr ⟨cs_n zc 5 - 1, by omega, Or.inl ⟨a4, rfl, eu⟩⟩⟩
  · exact Or.inr ⟨cs_n zc 4 - 1, by omega, Or.inr ⟨cs_n zc 5 - 1, by omega, Or.inr ⟨a4, a5, rfl, qt, rfl⟩⟩⟩
  · exact Or.inr ⟨cs_n zc 4 - 1, by omega, Or.inr ⟨cs_n zc 5 - 1, by omega, Or.inl ⟨a4, rfl, eu⟩⟩⟩
theorem stD_strike {zc u : CS} {zr v : RS2} {r r' : Int32} (hI : invC zc) (hJ : invR zr) (hL : relC zc zr) (h : relD zc zr) (hc : pC_strike zc r u) (hr : pR_strike zr r' v) : relD u v ∧ r = r' := by
  have hb := dn2 hI h
  obtain ⟨⟨e0, e1, e2, e3⟩, hP, hG, hT, hK, hA⟩ := id h
  obtain ⟨l1, l2, l3, l4, l5, l6, l7, l8⟩ := relC_i hL
  have e40 : ∀ n, n ≤ 40 → (nI n < 40 ↔ ¬ nI n = 40) := by decide
  have c40 := e40 (rs_n zr 2) hb.2.2.1
  have hpk := hJ.2.2.2.2.2.2
  obtain ⟨hs1, hs2⟩ := sold_neg hI h
  rcases strike_C hI hc with ⟨a1, rfl, rfl⟩ | ⟨p, a1, hc⟩
  · rcases hr with ⟨b1, b2, rfl, rfl⟩ | ⟨jp, b1, b2, b3, b4, _⟩ | ⟨jp, b1, b2, b3, b4, _⟩ | ⟨jp, b1, b2, b3, b4, _⟩
    · exact ⟨h, rfl⟩
    all_goals exact absurd b4 (hs2.mp a1)
  have hs : 0 ≤ rs_i zr 20 := Decidable.not_not.mp (fun q => by have := hs2.mpr q; omega)
  rcases hA with ⟨z, _⟩ | ⟨p', x1, x2, x3, x4, x5, x6, x7, x8, x9⟩
  · omega
  obtain rfl : p = p' := by omega
  rcases hc with ⟨a2, rfl, rfl⟩ | ⟨g, a2, hc⟩
  · have h22 : rs_i zr 22 = 0 := by
      rcases x9 with ⟨_, y2, _⟩ | ⟨_, g', _, y3, _⟩
      · exact y2
      · omega
    rcases hr with ⟨b1, b2, _⟩ | ⟨jp, b1, b2, b3, b4, b5, _⟩ | ⟨jp, b1, b2, b3, b4, b5, _⟩ | ⟨jp, b1, b2, b3, b4, b5, rfl, rfl⟩
    · exact absurd hs b2
    · exact absurd h22 b5
    · exact absurd h22 b5
    · exact ⟨⟨⟨e0, e1, e2, e3⟩, hP, hG, hT, hK, Or.inl ⟨rfl, rfl⟩⟩, rfl⟩
  rcases x9 with ⟨y1, _⟩ | ⟨y1, g', y2, y3, y4⟩
  · omega
  obtain rfl : g = g' := by omega
  rcases hc with ⟨a3, rfl, rfl⟩ | ⟨a3, a4, rfl, qt, rfl⟩ <;> rcases hr with ⟨b1, b2, _⟩ | ⟨jp, b1, b2, b3, b4, b5, b6, b7, rfl, rfl⟩ | ⟨jp, b1, b2, b3, b4, b5, b6, rfl, rfl⟩ | ⟨jp, b1, b2, b3, b4, b5, _⟩
  · exact absurd hs b2
  · exact absurd (c40.mpr b6) (e2 ▸ a3)
  · exact ⟨h, rfl⟩
  · exact absurd b5 y1
  · exact absurd hs b2
  · obtain rfl : p = jp := (nI_eq (by omega) (by omega)).mp (x3.symm.trans b2)
    obtain ⟨⟨q11, q12, q13, q14, q15⟩, q16, q17, q18⟩ := hP p x1
    have hpc : p < cs_n zc 0 := by omega
    have rl := (rect_sum (g := cs_I zc 0) (g' := rs_I zr 2) (f0 := rs_I zr 12) (f1 := rs_I zr 14) (f2 := rs_I zr 13) (f3 := rs_I zr 15) hI hpc q11 q13 q12 q14 l3).1
    have rh := (rect_sum (g := cs_I zc 1) (g' := rs_I zr 3) (f0 := rs_I zr 12) (f1 := rs_I zr 14) (f2 := rs_I zr 13) (f3 := rs_I zr 15) hI hpc q11 q13 q12 q14 l4).1
    have hnone : ∀ t, t < rs_n zr 2 → ¬ unl zr p t := by
      rcases q18 with ⟨_, q⟩ | ⟨t, _, q, _⟩
      · exact q
      · have x8 : cs_N zc 0 p = 0 := x8
        omega
    have rgl : rngL (rs_I zr 2) := fun j hj => by
      have q : cs_I zc 0 j = rs_I zr 2 j := l3 j hj
      rw [← q]; exact l5 j hj
    have rgh : rngL (rs_I zr 3) := fun j hj => by
      have q : cs_I zc 1 j = rs_I zr 3 j := l4 j hj
      rw [← q]; exact l6 j hj
    have hnk : ∀ k, k < rs_n zr 3 → ¬ rs_I zr 35 k = nI (rs_n zr 2) := fun k hk q => by
      obtain ⟨t, ht, et⟩ := hpk k hk
      have := (nI_eq (by omega) (by omega)).mp (et.symm.trans q)
      omega
    rw [x3, y4]
    refine ⟨⟨⟨e0, e1, congrArg (· + 1) e2, e3⟩, fun p' hp' => ?_, ⟨fun g' hg' => ?_, hG.2⟩, ⟨fun t ht => ?_, fun t ht => ?_⟩, fun k hk => ?_, Or.inl ⟨rfl, rfl⟩⟩, by rw [e2]⟩
    · have hp' : p' < rs_n zr 0 := hp'
      obtain ⟨z1, z2, z3, z4⟩ := hP p' hp'
      refine ⟨z1, z2, ?_, ?_⟩
      · show va_up (cs_I zc 16) p (cs_I zc 16 p + 1) p' = nI (fa_cnt (fun t => decide (upd (rs_I zr 26) (rs_n zr 2) (nI p) t = nI p')) (rs_n zr 2 + 1))
        have hcg : fa_cnt (fun t => decide (upd (rs_I zr 26) (rs_n zr 2) (nI p) t = nI p')) (rs_n zr 2) = fa_cnt (fun t => decide (rs_I zr 26 t = nI p')) (rs_n zr 2) := fa_cnt_cong (fun t ht => by rw [pk_un (by omega)])
        by_cases q : p' = p
        · subst q
          rw [va_up_self, fa_cnt_yes (by rw [pk_us]; exact decide_eq_true rfl), hcg, z3]; exact nI_1 _
        · rw [va_up_ne _ _ q, fa_cnt_no (by rw [pk_us]; exact decide_eq_false (fun w => q (ix_n (by omega) hp' x1 w.symm))), hcg]; exact z3
      · show (va_up (cs_N zc 0) p (cs_n zc 2 + 1) p' = 0 ∧ ∀ t, t < rs_n zr 2 + 1 → ¬ (upd (rs_I zr 26) (rs_n zr 2) (nI p) t = nI p' ∧ rs_I zr 28 t = 0)) ∨ ∃ t, t < rs_n zr 2 + 1 ∧ va_up (cs_N zc 0) p (cs_n zc 2 + 1) p' = t + 1 ∧ (upd (rs_I zr 26) (rs_n zr 2) (nI p) t = nI p' ∧ rs_I zr 28 t = 0) ∧ ∀ t', t' < rs_n zr 2 + 1 → (upd (rs_I zr 26) (rs_n zr 2) (nI p) t' = nI p' ∧ rs_I zr 28 t' = 0) → t' = t
        by_cases q : p' = p
        · subst q
          refine Or.inr ⟨rs_n zr 2, Nat.lt_succ_self _, by rw [va_up_self, e2], ⟨pk_us, (hT.2 _ (Nat.le_refl _)).1⟩, fun t' ht' z => ?_⟩
          by_cases qt : t' = rs_n zr 2
          · exact qt
          · rw [pk_un qt] at z
            exact absurd z (hnone t' (by omega))
        · rw [va_up_ne _ _ q]
          rcases z4 with ⟨z5, z6⟩ | ⟨t0, z5, z6, z7, z8⟩
          · refine Or.inl ⟨z5, fun t ht z => ?_⟩
            by_cases qt : t = rs_n zr 2
            · subst qt; rw [pk_us] at z; exact q (ix_n (by omega) hp' x1 z.1.symm)
            · rw [pk_un qt] at z; exact z6 t (by omega) z
          · refine Or.inr ⟨t0, by omega, z6, ⟨by rw [pk_un (by omega)]; exact z7.1, z7.2⟩, fun t' ht' z => ?_⟩
            by_cases qt : t' = rs_n zr 2
            · subst qt; rw [pk_us] at z; exact absurd (ix_n (by omega) hp' x1 z.1.symm) q
            · rw [pk_un qt] at z; exact z8 t' (by omega) z
    · have hg' : g' < rs_n zr 1 := hg'
      obtain ⟨z1, z2, z3⟩ := hG.1 g' hg'
      refine ⟨?_, ?_, z3⟩
      · show va_up (cs_I zc 21) g (cs_I zc 21 g + 1) g' = nI (fa_cnt (fun t => decide (upd (rs_I zr 25) (rs_n zr 2) (nI g) t = nI g')) (rs_n zr 2 + 1))
        have hcg : fa_cnt (fun t => decide (upd (rs_I zr 25) (rs_n zr 2) (nI g) t = nI g')) (rs_n zr 2) = fa_cnt (fun t => decide (rs_I zr 25 t = nI g')) (rs_n zr 2) := fa_cnt_cong (fun t ht => by rw [pk_un (by omega)])
        by_cases q : g' = g
        · subst q
          rw [va_up_self, fa_cnt_yes (by rw [pk_us]; exact decide_eq_true rfl), hcg, z1]; exact nI_1 _
        · rw [va_up_ne _ _ q, fa_cnt_no (by rw [pk_us]; exact decide_eq_false (fun w => q (ix_n (by omega) hg' y2 w.symm))), hcg]; exact z1
      · show va_up (cs_I zc 22) g (cs_I zc 22 g + 1) g' = nI (fa_cnt (fun t => decide (upd (rs_I zr 25) (rs_n zr 2) (nI g) t = nI g' ∧ rs_I zr 28 t = 0)) (rs_n zr 2 + 1))
        have hcg : fa_cnt (fun t => decide (upd (rs_I zr 25) (rs_n zr 2) (nI g) t = nI g' ∧ rs_I zr 28 t = 0)) (rs_n zr 2) = fa_cnt (fun t => decide (rs_I zr 25 t = nI g' ∧ rs_I zr 28 t = 0)) (rs_n zr 2) := fa_cnt_cong (fun t ht => by rw [pk_un (by omega)])
        by_cases q : g' = g
        · subst q
          rw [va_up_self, fa_cnt_yes (by rw [pk_us]; exact decide_eq_true ⟨rfl, (hT.2 _ (Nat.le_refl _)).1⟩), hcg, z2]; exact nI_1 _
        · rw [va_up_ne _ _ q, fa_cnt_no (by rw [pk_us]; exact decide_eq_false (fun w => q (ix_n (by omega) hg' y2 w.1.symm))), hcg]; exact z2
    · have ht : t < rs_n zr 2 + 1 := ht
      by_cases q : t = rs_n zr 2
      · subst q
        obtain ⟨o1, o2, o3, o4⟩ := hT.2 _ (Nat.le_refl _)
        unfold dT1
        show (upd (rs_I zr 25) (rs_n zr 2) (nI g) (rs_n zr 2) = nI (va_up (cs_N zc 2) (cs_n zc 2) g (rs_n zr 2)) ∧ upd (rs_I zr 26) (rs_n zr 2) (nI p) (rs_n zr 2) = nI (va_up (cs_N zc 3) (cs_n zc 2) p (rs_n zr 2)) ∧ va_up (cs_I zc 31) (cs_n zc 2) (cs_i zc 3) (rs_n zr 2) = upd (rs_I zr 27) (rs_n zr 2) (rs_i zr 21) (rs_n zr 2) ∧ va_up (cs_I zc 33) (cs_n zc 2) 0 (rs_n zr 2) = rs_I zr 28 (rs_n zr 2) ∧ va_up (cs_I zc 32) (cs_n zc 2) 0 (rs_n zr 2) = nI (fa_cnt (fun k => decide (rs_I zr 35 k = nI (rs_n zr 2))) (rs_n zr 3))) ∧ (va_up (cs_L zc 1) (cs_n zc 2) (pacc (cs_I zc 0) (rXa zc p) (rWa zc p) (rYa zc p) (rHa zc p + 1) * (cs_I zc 15 p).toInt64) (rs_n zr 2) = vp_updL (rs_L zr 29) (rs_n zr 2) (fsum (onB (rs_I zr 12) (rs_I zr 14) (rs_I zr 13) (rs_I zr 15) p) (rs_I zr 2) 48 * ((rs_I zr 16) p).toInt64) (rs_n zr 2) ∧ va_up (cs_L zc 2) (cs_n zc 2) (pacc (cs_I zc 1) (rXa zc p) (rWa zc p) (rYa zc p) (rHa zc p + 1) * (cs_I zc 15 p).toInt64) (rs_n zr 2) = vp_updL (rs_L zr 30) (rs_n zr 2) (fsum (onB (rs_I zr 12) (rs_I zr 14) (rs_I zr 13) (rs_I zr 15) p) (rs_I zr 3) 48 * ((rs_I zr 16) p).toInt64) (rs_n zr 2) ∧ va_up (cs_L zc 3) (cs_n zc 2) 0 (rs_n zr 2) = wsum (rs_I zr 35) (rs_I zr 36) (rs_I zr 37) (nI (rs_n zr 2)) (rs_n zr 3) ∧ va_up (cs_L zc 4) (cs_n zc 2) 0 (rs_n zr 2) = rs_L zr 31 (rs_n zr 2) ∧ va_up (cs_L zc 5) (cs_n zc 2) 0 (rs_n zr 2) = rs_L zr 32 (rs_n zr 2) ∧ va_up (cs_L zc 6) (cs_n zc 2) 0 (rs_n zr 2) = rs_L zr 33 (rs_n zr 2)) ∧ (0 ≤ (vp_updL (rs_L zr 29) (rs_n zr 2) (fsum (onB (rs_I zr 12) (rs_I zr 14) (rs_I zr 13) (rs_I zr 15) p) (rs_I zr 2) 48 * ((rs_I zr 16) p).toInt64) (rs_n zr 2)).toInt ∧ (vp_updL (rs_L zr 29) (rs_n zr 2) (fsum (onB (rs_I zr 12) (rs_I zr 14) (rs_I zr 13) (rs_I zr 15) p) (rs_I zr 2) 48 * ((rs_I zr 16) p).toInt64) (rs_n zr 2)).toInt ≤ 5000000 ∧ 0 ≤ (vp_updL (rs_L zr 30) (rs_n zr 2) (fsum (onB (rs_I zr 12) (rs_I zr 14) (rs_I zr 13) (rs_I zr 15) p) (rs_I zr 3) 48 * ((rs_I zr 16) p).toInt64) (rs_n zr 2)).toInt ∧ (vp_updL (rs_L zr 30) (rs_n zr 2) (fsum (onB (rs_I zr 12) (rs_I zr 14) (rs_I zr 13) (rs_I zr 15) p) (rs_I zr 3) 48 * ((rs_I zr 16) p).toInt64) (rs_n zr 2)).toInt ≤ 5000000)
        rw [e2]
        simp only [va_up_self, pk_us, pk_uLs]
        have t1 := tons_rg (fsum_rg (P := onB (rs_I zr 12) (rs_I zr 14) (rs_I zr 13) (rs_I zr 15) p) rgl 48 (Nat.le_refl _)) q16
        have t2 := tons_rg (fsum_rg (P := onB (rs_I zr 12) (rs_I zr 14) (rs_I zr 13) (rs_I zr 15) p) rgh 48 (Nat.le_refl _)) q16
        refine ⟨⟨trivial, trivial, x4, o1.symm, ?_⟩, ⟨by rw [rl, q15], by rw [rh, q15], (wsum_0 _ hnk).symm, o2.symm, o3.symm, o4.symm⟩, t1.1, t1.2, t2.1, t2.2⟩
        rw [cnt_0 _ (fun k hk => decide_eq_false (hnk k hk))]
        rfl
      · have ht2 : t < rs_n zr 2 := by omega
        have hz := hT.1 t ht2
        unfold dT1 at hz ⊢
        show (upd (rs_I zr 25) (rs_n zr 2) (nI g) t = nI (va_up (cs_N zc 2) (cs_n zc 2) g t) ∧ upd (rs_I zr 26) (rs_n zr 2) (nI p) t = nI (va_up (cs_N zc 3) (cs_n zc 2) p t) ∧ va_up (cs_I zc 31) (cs_n zc 2) (cs_i zc 3) t = upd (rs_I zr 27) (rs_n zr 2) (rs_i zr 21) t ∧ va_up (cs_I zc 33) (cs_n zc 2) 0 t = rs_I zr 28 t ∧ va_up (cs_I zc 32) (cs_n zc 2) 0 t = nI (fa_cnt (fun k => decide (rs_I zr 35 k = nI t)) (rs_n zr 3))) ∧ (va_up (cs_L zc 1) (cs_n zc 2) (pacc (cs_I zc 0) (rXa zc p) (rWa zc p) (rYa zc p) (rHa zc p + 1) * (cs_I zc 15 p).toInt64) t = vp_updL (rs_L zr 29) (rs_n zr 2) (fsum (onB (rs_I zr 12) (rs_I zr 14) (rs_I zr 13) (rs_I zr 15) p) (rs_I zr 2) 48 * ((rs_I zr 16) p).toInt64) t ∧ va_up (cs_L zc 2) (cs_n zc 2) (pacc (cs_I zc 1) (rXa zc p) (rWa zc p) (rYa zc p) (rHa zc p + 1) * (cs_I zc 15 p).toInt64) t = vp_updL (rs_L zr 30) (rs_n zr 2) (fsum (onB (rs_I zr 12) (rs_I zr 14) (rs_I zr 13) (rs_I zr 15) p) (rs_I zr 3) 48 * ((rs_I zr 16) p).toInt64) t ∧ va_up (cs_L zc 3) (cs_n zc 2) 0 t = wsum (rs_I zr 35) (rs_I zr 36) (rs_I zr 37) (nI t) (rs_n zr 3) ∧ va_up (cs_L zc 4) (cs_n zc 2) 0 t = rs_L zr 31 t ∧ va_up (cs_L zc 5) (cs_n zc 2) 0 t = rs_L zr 32 t ∧ va_up (cs_L zc 6) (cs_n zc 2) 0 t = rs_L zr 33 t) ∧ (0 ≤ (vp_updL (rs_L zr 29) (rs_n zr 2) (fsum (onB (rs_I zr 12) (rs_I zr 14) (rs_I zr 13) (rs_I zr 15) p) (rs_I zr 2) 48 * ((rs_I zr 16) p).toInt64) t).toInt ∧ (vp_updL (rs_L zr 29) (rs_n zr 2) (fsum (onB (rs_I zr 12) (rs_I zr 14) (rs_I zr 13) (rs_I zr 15) p) (rs_I zr 2) 48 * ((rs_I zr 16) p).toInt64) t).toInt ≤ 5000000 ∧ 0 ≤ (vp_updL (rs_L zr 30) (rs_n zr 2) (fsum (onB (rs_I zr 12) (rs_I zr 14) (rs_I zr 13) (rs_I zr 15) p) (rs_I zr 3) 48 * ((rs_I zr 16) p).toInt64) t).toInt ∧ (vp_updL (rs_L zr 30) (rs_n zr 2) (fsum (onB (rs_I zr 12) (rs_I zr 14) (rs_I zr 13) (rs_I zr 15) p) (rs_I zr 3) 48 * ((rs_I zr 16) p).toInt64) t).toInt ≤ 5000000)
        rw [e2]
        simp only [va_up_ne _ _ q, pk_un q, pk_uLn q]
        exact hz
    · have ht : rs_n zr 2 + 1 ≤ t := ht
      exact hT.2 t (by omega)
    · have hk : k < rs_n zr 3 := hk
      obtain ⟨z1, t, z2, z3, z4⟩ := hK k hk
      refine ⟨z1, t, (show t < rs_n zr 2 + 1 by omega), z3, ?_⟩
      show cs_N zc 4 k = va_up (cs_N zc 3) (cs_n zc 2) p t
      rw [va_up_ne _ _ (by omega)]; exact z4
  · exact absurd b6 (c40.mp (e2 ▸ a3))
  · exact absurd b5 y1
theorem eqD_told {zc u : CS} {zr v : RS2} {a0 r r' : Int32} (hI : invC zc) (hL : relC zc zr) (h : relD zc zr) (hc : pC_told zc a0 r u) (hr : pR_told zr a0 r' v) : r = r' := by
  obtain ⟨⟨e0, e1, e2, e3⟩, hP, hG, hT, hK, hA⟩ := id h
  obtain ⟨hs1, hs2⟩ := sold_neg hI h
  have e4 : cs_i zc 0 = rs_i zr 1 := hL.1
  have on : ¬ cs_n zc 4 = 0 → nI (cs_n zc 4 - 1) = rs_i zr 20 ∧ cs_i zc 3 = rs_i zr 21 ∧ cs_i zc 4 = rs_i zr 22 := fun q => by
    rcases hA with ⟨z, _⟩ | ⟨p, x1, x2, x3, x4, x5, _⟩
    · exact absurd z q
    · exact ⟨by rw [x2, x3]; rfl, x4, x5⟩
  have off : cs_n zc 4 = 0 → rs_i zr 20 = -9 := fun q => by
    rcases hA with ⟨_, z⟩ | ⟨p, x1, x2, _⟩
    · exact z
    · omega
  rcases hr with ⟨rfl, rfl, rfl⟩ | ⟨rfl, rfl, rfl⟩ | ⟨rfl, rfl, rfl⟩ | ⟨rfl, rfl, rfl⟩ | ⟨rfl, rfl, rfl⟩ | ⟨rfl, b1, rfl, rfl⟩ | ⟨rfl, b1, rfl, rfl⟩ | ⟨rfl, rfl, rfl⟩ | ⟨rfl, b1, rfl, rfl⟩ | ⟨rfl, b1, rfl, rfl⟩ | ⟨w0, w1, w2, w3, w4, w5, w6, w7, rfl, rfl⟩
  all_goals
    rcases hc with ⟨c, ea, rfl, rfl⟩ | ⟨c, ea, rfl, rfl⟩ | ⟨c, ea, rfl, rfl⟩ | ⟨c, ea, rfl, rfl⟩ | ⟨c, ea, rfl, rfl⟩ | ⟨c, ea, rfl, rfl⟩ | ⟨c, ea, rfl, rfl⟩ | ⟨c, ea, rfl, rfl⟩ | ⟨c, v0, v1, v2, v3, v4, v5, v6, v7, rfl, rfl⟩ | ⟨c, ea, rfl, rfl⟩ | ⟨c, ea, rfl, rfl⟩ | ⟨c, ea, rfl, rfl⟩ | ⟨c, ea, rfl, rfl⟩ | ⟨c, ea, rfl, rfl⟩ | ⟨c, ea, rfl, rfl⟩ | ⟨c, ea, rfl, rfl⟩ | ⟨c, ea, rfl, rfl⟩ | ⟨c, v0, v1, v2, v3, v4, v5, v6, v7, rfl, rfl⟩
    all_goals first
      | exact absurd ea (by decide)
      | contradiction
      | exact absurd rfl v0
      | exact absurd rfl v1
      | exact absurd rfl v2
      | exact absurd rfl v3
      | exact absurd rfl v4
      | exact absurd rfl v5
      | exact absurd rfl v6
      | exact absurd rfl v7
      | rfl
      | (rw [e0]; done)
      | (rw [e1]; done)
      | (rw [e2]; done)
      | (rw [e3]; done)
      | exact e4
      | exact absurd b1 (hs2.mp c)
      | exact absurd (hs2.mpr b1) c
      | exact (off c).symm
      | exact (on c).1
      | exact (on c).2.1
      | exact (on c).2.2
theorem eqD_debt {zc u : CS} {zr v : RS2} {g : Int32} {r r' : Int64} (hI : invC zc) (h : relD zc zr) (hc : pC_debt zc g r u) (hr : pR_debt zr g r' v) : r = r' := by
  have hb := dn2 hI h
  obtain ⟨⟨e0, e1, e2, e3⟩, hP, hG, hT, hK, hA⟩ := id h
  rcases hr with ⟨b1, rfl, rfl⟩ | ⟨j, rfl, b1, rfl, rfl⟩ <;> rcases hc with ⟨a1, rfl, rfl⟩ | ⟨jg, e, a1, a2, rfl, rfl⟩ | ⟨jg, e, a1, a2, rfl, rfl⟩ | ⟨jg, e, a1, a2, rfl, rfl⟩
  all_goals first
    | rfl
    | exact absurd e (b1 jg (e1 ▸ a1))
    | exact absurd rfl (a1 j (e1 ▸ b1))
    | (obtain rfl := ix_n (by omega) b1 (e1 ▸ a1) e
       exact (hG.1 _ b1).2.2)
theorem eqD_money {zc u : CS} {zr v : RS2} {t wh : Int32} {r r' : Int64} (hI : invC zc) (h : relD zc zr) (hc : pC_money zc t wh r u) (hr : pR_money zr t wh r' v) : r = r' := by
  have hb := dn2 hI h
  obtain ⟨⟨e0, e1, e2, e3⟩, hP, hG, hT, hK, hA⟩ := id h
  rcases hr with ⟨b1, rfl, rfl⟩ | ⟨j, rfl, b1, rfl, rfl, rfl⟩ | ⟨j, rfl, b1, rfl, rfl, rfl⟩ | ⟨j, rfl, b1, rfl, rfl, rfl⟩ | ⟨j, rfl, b1, rfl, rfl, rfl⟩ | ⟨j, rfl, b1, rfl, rfl, rfl⟩ | ⟨j, rfl, b1, rfl, rfl, rfl⟩ | ⟨j, rfl, b1, w0, w1, w2, w3, w4, w5, rfl, rfl⟩
  · rcases hc with ⟨a1, rfl, rfl⟩ | ⟨jt, e, a1, _⟩ | ⟨jt, e, a1, _⟩ | ⟨jt, e, a1, _⟩ | ⟨jt, e, a1, _⟩ | ⟨jt, e, a1, _⟩ | ⟨jt, e, a1, _⟩ | ⟨jt, e, a1, _⟩
    · rfl
    all_goals exact absurd e (b1 jt (e2 ▸ a1))
  all_goals
    obtain ⟨_, ⟨w1', w2', w3', w4', w5', w6'⟩, _⟩ := hT.1 j b1
    rcases hc with ⟨a1, rfl, rfl⟩ | ⟨jt, e, a1, ew, rfl, rfl⟩ | ⟨jt, e, a1, ew, rfl, rfl⟩ | ⟨jt, e, a1, ew, rfl, rfl⟩ | ⟨jt, e, a1, ew, rfl, rfl⟩ | ⟨jt, e, a1, ew, rfl, rfl⟩ | ⟨jt, e, a1, ew, rfl, rfl⟩ | ⟨jt, e, a1, v0, v1, v2, v3, v4, v5, rfl, rfl⟩
    · exact absurd rfl (a1 j (e2 ▸ b1))
    all_goals obtain rfl := ix_n (by omega) b1 (e2 ▸ a1) e
    all_goals first
      | exact absurd ew (by decide)
      | contradiction
      | exact absurd rfl v0
      | exact absurd rfl v1
      | exact absurd rfl v2
      | exact absurd rfl v3
      | exact absurd rfl v4
      | exact absurd rfl v5
      | rfl
      | exact w3'
      | exact w4'
      | exact w5'
      | exact w6'
      | exact w1'
      | exact w2'
theorem eqD_taken {zc u : CS} {zr v : RS2} {t wh r r' : Int32} (hI : invC zc) (h : relD zc zr) (hc : pC_taken zc t wh r u) (hr : pR_taken zr t wh r' v) : r = r' := by
  have hb := dn2 hI h
  obtain ⟨⟨e0, e1, e2, e3⟩, hP, hG, hT, hK, hA⟩ := id h
  -- the class's kinds are one
  have hc' : ((∀ j, j < cs_n zc 2 → t ≠ nI j) ∧ r = -1) ∨ ∃ jt, t = nI jt ∧ jt < cs_n zc 2 ∧ ((wh = 0 ∧ r = nI (cs_N zc 2 jt)) ∨ (wh = 1 ∧ r = nI (cs_N zc 3 jt)) ∨ (wh = 2 ∧ r = cs_I zc 31 jt) ∨ (wh = 3 ∧ cs_I zc 33 jt = 0 ∧ r = 0) ∨ (wh = 3 ∧ ¬ cs_I zc 33 jt = 0 ∧ r = 1) ∨ (wh = 4 ∧ r = cs_I zc 32 jt) ∨ (¬ wh = 0 ∧ ¬ wh = 1 ∧ ¬ wh = 2 ∧ ¬ wh = 3 ∧ ¬ wh = 4 ∧ r = -2)) := by
    rcases hc with ⟨a1, rfl, rfl⟩ | ⟨jt, e, a1, _, ew, rfl, rfl⟩ | ⟨jt, e, a1, _, ew, rfl, rfl⟩ | ⟨jt, e, a1, _, ew, rfl, rfl⟩ | ⟨jt, e, a1, _, ew, c, rfl, rfl⟩ | ⟨jt, e, a1, _, ew, c, rfl, rfl⟩ | ⟨jt, e, a1, _, ew, rfl, rfl⟩ | ⟨jt, e, a1, _, v0, v1, v2, v3, v4, rfl, rfl⟩ | ⟨jt, e, a1, _, ew, rfl, rfl⟩ | ⟨jt, e, a1, _, ew, rfl, rfl⟩ | ⟨jt, e, a1, _, ew, rfl, rfl⟩ | ⟨jt, e, a1, _, ew, c, rfl, rfl⟩ | ⟨jt, e, a1, _, ew, c, rfl, rfl⟩ | ⟨jt, e, a1, _, ew, rfl, rfl⟩ | ⟨jt, e, a1, _, v0, v1, v2, v3, v4, rfl, rfl⟩ | ⟨jt, e, a1, _, ew, rfl, rfl⟩ | ⟨jt, e, a1, _, ew, rfl, rfl⟩ | ⟨jt, e, a1, _, ew, rfl, rfl⟩ | ⟨jt, e, a1, _, ew, c, rfl, rfl⟩ | ⟨jt, e, a1, _, ew, c, rfl, rfl⟩ | ⟨jt, e, a1, _, ew, rfl, rfl⟩ | ⟨jt, e, a1, _, v0, v1, v2, v3, v4, rfl, rfl⟩
    · exact Or.inl ⟨a1, rfl⟩
    all_goals refine Or.inr ⟨jt, e, a1, ?_⟩
    all_goals first
      | exact Or.inl ⟨ew, rfl⟩
      | exact Or.inr (Or.inl ⟨ew, rfl⟩)
      | exact Or.inr (Or.inr (Or.inl ⟨ew, rfl⟩))
      | exact Or.inr (Or.inr (Or.inr (Or.inl ⟨ew, c, rfl⟩)))
      | exact Or.inr (Or.inr (Or.inr (Or.inr (Or.inl ⟨ew, c, rfl⟩))))
      | exact Or.inr (Or.inr (Or.inr (Or.inr (Or.inr (Or.inl ⟨ew, rfl⟩)))))
      | exact Or.inr (Or.inr (Or.inr (Or.inr (Or.inr (Or.inr ⟨v0, v1, v2, v3, v4, rfl⟩)))))
  rcases hr with ⟨b1, rfl, rfl⟩ | ⟨j, rfl, b1, rfl, rfl, rfl⟩ | ⟨j, rfl, b1, rfl, rfl, rfl⟩ | ⟨j, rfl, b1, rfl, rfl, rfl⟩ | ⟨j, rfl, b1, rfl, b2, rfl, rfl⟩ | ⟨j, rfl, b1, rfl, b2, rfl, rfl⟩ | ⟨j, rfl, b1, rfl, rfl, rfl⟩ | ⟨j, rfl, b1, w0, w1, w2, w3, w4, rfl, rfl⟩
  · rcases hc' with ⟨a1, rfl⟩ | ⟨jt, e, a1, _⟩
    · rfl
    · exact absurd e (b1 jt (e2 ▸ a1))
  all_goals
    obtain ⟨⟨y1, y2, y3, y4, y5⟩, _⟩ := hT.1 j b1
    rcases hc' with ⟨a1, rfl⟩ | ⟨jt, e, a1, hc'⟩
    · exact absurd rfl (a1 j (e2 ▸ b1))
    obtain rfl := ix_n (by omega) b1 (e2 ▸ a1) e
    rcases hc' with ⟨ew, rfl⟩ | ⟨ew, rfl⟩ | ⟨ew, rfl⟩ | ⟨ew, c, rfl⟩ | ⟨ew, c, rfl⟩ | ⟨ew, rfl⟩ | ⟨v0, v1, v2, v3, v4, rfl⟩
    all_goals first
      | exact absurd ew (by decide)
      | contradiction
      | exact absurd rfl v0
      | exact absurd rfl v1
      | exact absurd rfl v2
      | exact absurd rfl v3
      | exact absurd rfl v4
      | rfl
      | exact y1.symm
      | exact y2.symm
      | exact y3
      | exact y5
      | exact absurd (y4 ▸ c) b2
      | exact absurd (y4 ▸ b2) c
theorem eqD_about {zc u : CS} {zr v : RS2} {pp wh r r' : Int32} (hI : invC zc) (h : relD zc zr) (hc : pC_about zc pp wh r u) (hr : pR_about zr pp wh r' v) : r = r' := by
  have hb := dn2 hI h
  obtain ⟨⟨e0, e1, e2, e3⟩, hP, hG, hT, hK, hA⟩ := id h
  rcases hr with ⟨b1, rfl, rfl⟩ | ⟨j, rfl, b1, rfl, rfl, rfl⟩ | ⟨j, rfl, b1, rfl, rfl, rfl⟩ | ⟨j, rfl, b1, rfl, rfl, rfl⟩ | ⟨j, rfl, b1, rfl, rfl, rfl⟩ | ⟨j, rfl, b1, rfl, rfl, rfl⟩ | ⟨j, rfl, b1, rfl, q, hq, rfl, rfl⟩ | ⟨j, rfl, b1, rfl, rfl, rfl⟩ | ⟨j, rfl, b1, w0, w1, w2, w3, w4, w5, w6, rfl, rfl⟩
  · rcases hc with ⟨a1, rfl, rfl⟩ | ⟨jp, e, a1, _⟩ | ⟨jp, e, a1, _⟩ | ⟨jp, e, a1, _⟩ | ⟨jp, e, a1, _⟩ | ⟨jp, e, a1, _⟩ | ⟨jp, e, a1, _⟩ | ⟨jp, e, a1, _⟩ | ⟨jp, e, a1, _⟩ | ⟨jp, e, a1, _⟩ | ⟨jp, e, a1, _⟩ | ⟨jp, e, a1, _⟩ | ⟨jp, e, a1, _⟩ | ⟨jp, e, a1, _⟩ | ⟨jp, e, a1, _⟩ | ⟨jp, e, a1, _⟩ | ⟨jp, e, a1, _⟩
    · rfl
    all_goals exact absurd e (b1 jp (e0 ▸ a1))
  all_goals
    obtain ⟨⟨q1, q2, q3, q4, q5⟩, _, q7, _⟩ := hP j b1
    rcases hc with ⟨a1, rfl, rfl⟩ | ⟨jp, e, a1, a2, ew, rfl, rfl⟩ | ⟨jp, e, a1, a2, ew, rfl, rfl⟩ | ⟨jp, e, a1, a2, ew, rfl, rfl⟩ | ⟨jp, e, a1, a2, ew, rfl, rfl⟩ | ⟨jp, e, a1, a2, ew, rfl, rfl⟩ | ⟨jp, e, a1, a2, ew, rfl, rfl⟩ | ⟨jp, e, a1, a2, ew, rfl, rfl⟩ | ⟨jp, e, a1, a2, v0, v1, v2, v3, v4, v5, v6, rfl, rfl⟩ | ⟨jp, e, a1, a2, ew, rfl, rfl⟩ | ⟨jp, e, a1, a2, ew, rfl, rfl⟩ | ⟨jp, e, a1, a2, ew, rfl, rfl⟩ | ⟨jp, e, a1, a2, ew, rfl, rfl⟩ | ⟨jp, e, a1, a2, ew, rfl, rfl⟩ | ⟨jp, e, a1, a2, ew, rfl, rfl⟩ | ⟨jp, e, a1, a2, ew, rfl, rfl⟩ | ⟨jp, e, a1, a2, v0, v1, v2, v3, v4, v5, v6, rfl, rfl⟩
    · exact absurd rfl (a1 j (e0 ▸ b1))
    all_goals obtain rfl := ix_n (by omega) b1 (e0 ▸ a1) e
    all_goals first
      | exact absurd ew (by decide)
      | contradiction
      | exact absurd rfl v0
      | exact absurd rfl v1
      | exact absurd rfl v2
      | exact absurd rfl v3
      | exact absurd rfl v4
      | exact absurd rfl v5
      | exact absurd rfl v6
      | rfl
      | exact q1
      | exact q2
      | exact q3
      | exact q4
      | exact q5
      | exact q7
      | (rcases takeOf_D hI h b1 hq with ⟨x1, x2⟩ | ⟨x1, x2, _⟩
         all_goals first | exact absurd a2 x1 | exact absurd x1 a2 | exact x2.symm)
theorem eqD_foretold {zc u : CS} {zr v : RS2} {pp wh : Int32} {r r' : Int64} (hI : invC zc) (hL : relC zc zr) (h : relD zc zr) (hc : pC_foretold zc pp wh r u) (hr : pR_foretold zr pp wh r' v) : r = r' := by
  have hb := dn2 hI h
  obtain ⟨⟨e0, e1, e2, e3⟩, hP, hG, hT, hK, hA⟩ := id h
  obtain ⟨l1, l2, l3, l4, l5, l6, l7, l8⟩ := relC_i hL
  rcases hr with ⟨b1, rfl, _⟩ | ⟨j, rfl, b1, b2, rfl, rfl, _⟩ | ⟨j, rfl, b1, b2, rfl, rfl, _⟩ | ⟨j, rfl, b1, b2, rfl, _⟩
  · rcases hc with ⟨a1, rfl, _⟩ | ⟨jp, e, a1, _⟩ | ⟨jp, e, a1, _⟩ | ⟨jp, e, a1, _⟩
    · rfl
    all_goals exact absurd e (b1 jp (e0 ▸ a1))
  all_goals
    obtain ⟨⟨q1, q2, q3, q4, q5⟩, _⟩ := hP j b1
    have hjc : j < cs_n zc 0 := e0 ▸ b1
    have rl := (rect_sum (g := cs_I zc 0) (g' := rs_I zr 2) (f0 := rs_I zr 12) (f1 := rs_I zr 14) (f2 := rs_I zr 13) (f3 := rs_I zr 15) hI hjc q1 q3 q2 q4 l3).1
    have rh := (rect_sum (g := cs_I zc 1) (g' := rs_I zr 3) (f0 := rs_I zr 12) (f1 := rs_I zr 14) (f2 := rs_I zr 13) (f3 := rs_I zr 15) hI hjc q1 q3 q2 q4 l4).1
    rcases hc with ⟨a1, rfl, _⟩ | ⟨jp, e, a1, a2, a3, rfl, _⟩ | ⟨jp, e, a1, a2, a3, rfl, _⟩ | ⟨jp, e, a1, a2, rfl, _⟩
    · exact absurd rfl (a1 j hjc)
    all_goals obtain rfl := ix_n (by omega) b1 (e0 ▸ a1) e
    all_goals first
      | contradiction
      | exact absurd rfl a3
      | exact absurd a3 (by decide)
      | rfl
      | (rw [rl, q5]; done)
      | (rw [rh, q5]; done)
theorem eqD_tell {zc u : CS} {zr v : RS2} {g r r' : Int32} (hI : invC zc) (hKA : relA zc zr) (h : relD zc zr) (hc : pC_tell zc g r u) (hr : pR_tell zr g r' v) : r = r' := by
  have hb := dn2 hI h
  obtain ⟨⟨e0, e1, e2, e3⟩, hP, hG, hT, hK, hA⟩ := id h
  rcases hc with ⟨a1, rfl, rfl⟩ | ⟨jg, rfl, a1, a2, rfl, rfl⟩ | ⟨jg, rfl, a1, a2, rfl, rfl⟩ | ⟨jg, rfl, a1, a2, rfl, rfl⟩
  · rcases hr with ⟨b1, rfl, rfl⟩ | ⟨j, rfl, b1, _⟩ | ⟨j, rfl, b1, _⟩ | ⟨j, rfl, b1, _⟩ | ⟨j, rfl, b1, _⟩ | ⟨j, rfl, b1, _⟩ | ⟨j, rfl, b1, _⟩ | ⟨j, rfl, b1, _⟩ | ⟨j, rfl, b1, _⟩ | ⟨j, rfl, b1, _⟩
    · rfl
    all_goals exact absurd rfl (a1 j (e1 ▸ b1))
  all_goals
    have hk := relA_k hKA a1
    rw [a2] at hk
    have hjg : jg < rs_n zr 1 := e1 ▸ a1
    have hcnt := (hG.1 jg hjg).1
    rcases hr with ⟨b1, rfl, rfl⟩ | ⟨j, e, b1, c1, c2, c3, rfl, rfl⟩ | ⟨j, e, b1, c1, c2, c3, rfl, rfl⟩ | ⟨j, e, b1, c1, c2, rfl, rfl⟩ | ⟨j, e, b1, c1, c2, c3, c4, rfl, rfl⟩ | ⟨j, e, b1, c1, c2, c3, c4, rfl, rfl⟩ | ⟨j, e, b1, c1, c2, c3, rfl, rfl⟩ | ⟨j, e, b1, c1, c2, c3, c4, rfl, rfl⟩ | ⟨j, e, b1, c1, c2, c3, c4, rfl, rfl⟩ | ⟨j, e, b1, c1, c2, c3, rfl, rfl⟩
    · exact absurd rfl (b1 jg hjg)
    all_goals
      obtain rfl := ix_n (by omega) hjg b1 e
      first
      | (rw [hcnt]; done)
      | (rw [hk] at c1; exact absurd c1 (by decide))
      | (rw [hk] at c2; exact absurd c2 (by decide))
      | (rw [hk] at c3; exact absurd c3 (by decide))
      | (rw [hk] at c4; exact absurd c4 (by decide))
theorem sus_eq {zc : CS} {zr : RS2} (hI : invC zc) (hL : relC zc zr) (h : relD zc zr) {k : Nat} (hk : k < rs_n zr 3) : psus zc k = rsus zr k := by
  have hb := dn2 hI h
  obtain ⟨⟨e0, e1, e2, e3⟩, hP, hG, hT, hK, hA⟩ := id h
  obtain ⟨l1, l2, l3, l4, l5, l6, l7, l8⟩ := relC_i hL
  obtain ⟨x1, t, x2, x3, x4⟩ := hK k hk
  obtain ⟨⟨y1, y2, _⟩, _⟩ := hT.1 t x2
  have hp : cs_N zc 4 k < cs_n zc 0 := hI.2.2.2.2.1 k (e3 ▸ hk)
  have hp' : cs_N zc 4 k < rs_n zr 0 := e0 ▸ hp
  have eT : rT zr k = t := by rw [rT, x3, nI_clamp (by omega)]
  have eP : rP zr k = cs_N zc 4 k := by rw [rP, eT, y2, ← x4, nI_clamp (by omega)]
  obtain ⟨⟨q1, q2, q3, q4, q5⟩, _⟩ := hP _ hp'
  have rh := (rect_sum (g := cs_I zc 1) (g' := rs_I zr 3) (f0 := rs_I zr 12) (f1 := rs_I zr 14) (f2 := rs_I zr 13) (f3 := rs_I zr 15) hI hp q1 q3 q2 q4 l4).2
  rw [psus, rsus, eP, rh, x1]
theorem cnt_mono {P : Nat → Bool} {n : Nat} : ∀ k, fa_cnt P n ≤ fa_cnt P (n + k)
  | 0 => Nat.le_refl _
  | k + 1 => by
    have := cnt_mono (P := P) (n := n) k
    show fa_cnt P n ≤ fa_cnt P (n + k) + _
    omega
theorem cnt_inj {P : Nat → Bool} {i j : Nat} (hi : P i = true) (hj : P j = true) (h : fa_cnt P i = fa_cnt P j) : i = j := by
  have key : ∀ {a b : Nat}, P a = true → a < b → fa_cnt P a < fa_cnt P b := fun {a b} ha hab => by
    have h1 := fa_cnt_yes ha
    have h2 := cnt_mono (P := P) (n := a + 1) (b - (a + 1))
    rw [show a + 1 + (b - (a + 1)) = b by omega] at h2
    omega
  rcases Nat.lt_trichotomy i j with q | q | q
  · have := key hi q; omega
  · exact q
  · have := key hj q; omega
theorem eqD_suspects {zc u : CS} {zr v : RS2} {r r' : Int32} (hI : invC zc) (hL : relC zc zr) (h : relD zc zr) (hc : pC_suspects zc r u) (hr : pR_suspects zr r' v) : r = r' := by
  obtain ⟨rfl, _⟩ := hc
  obtain ⟨rfl, _⟩ := hr
  rw [h.1.2.2.2]
  exact congrArg nI (fa_cnt_cong fun k hk => sus_eq hI hL h hk)
theorem eqD_suspect {zc u : CS} {zr v : RS2} {ix r r' : Int32} (hI : invC zc) (hL : relC zc zr) (h : relD zc zr) (hc : pC_suspect zc ix r u) (hr : pR_suspect zr ix r' v) : r = r' := by
  have hb := dn2 hI h
  have e3 := h.1.2.2.2
  have cg : ∀ q, q ≤ rs_n zr 3 → fa_cnt (psus zc) q = fa_cnt (rsus zr) q := fun q hq => fa_cnt_cong fun k hk => sus_eq hI hL h (by omega)
  rcases hc with ⟨a1, rfl, _⟩ | ⟨i, a1, a2, a3, rfl, _⟩ <;> rcases hr with ⟨b1, rfl, _⟩ | ⟨j, b1, b2, b3, rfl, _⟩
  · rfl
  · exact absurd (by rw [cg j (by omega)]; exact b3.symm) (a1 j (e3 ▸ b1) ((sus_eq hI hL h b1).trans b2))
  · have hi : i < rs_n zr 3 := e3 ▸ a1
    exact absurd (by rw [← cg i (by omega)]; exact a3.symm) (b1 i hi ((sus_eq hI hL h hi).symm.trans a2))
  · have hi : i < rs_n zr 3 := e3 ▸ a1
    have q := a3.trans b3.symm
    rw [cg i (by omega)] at q
    have l1 := fa_cnt_le (rsus zr) i
    have l2 := fa_cnt_le (rsus zr) j
    have q := (nI_eq (by omega) (by omega)).mp q
    rw [cnt_inj ((sus_eq hI hL h hi).symm.trans a2) b2 q]
