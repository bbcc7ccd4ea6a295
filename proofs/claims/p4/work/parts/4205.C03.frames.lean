theorem frCC_trace {zc u : CS} {r : Int32} (h : pC_trace zc r u) : fC u = fC zc := by
  rcases h with ⟨_, rfl⟩
  all_goals rfl
theorem frCR_trace {zr u : RS2} {r : Int32} (h : pR_trace zr r u) : gC u = gC zr := by
  rcases h with ⟨_, rfl⟩
  all_goals rfl
theorem frCC_fault {zc u : CS} {r : Int32} (h : pC_fault zc r u) : fC u = fC zc := by
  rcases h with ⟨_, rfl⟩
  all_goals rfl
theorem frCR_fault {zr u : RS2} {r : Int32} (h : pR_fault zr r u) : gC u = gC zr := by
  rcases h with ⟨_, rfl⟩
  all_goals rfl
theorem frCC_told {zc u : CS} {a0 : Int32} {r : Int32} (h : pC_told zc a0 r u) : fC u = fC zc := by
  rcases h with ⟨_, _, _, rfl⟩ | ⟨_, _, _, rfl⟩ | ⟨_, _, _, rfl⟩ | ⟨_, _, _, rfl⟩ | ⟨_, _, _, rfl⟩ | ⟨_, _, _, rfl⟩ | ⟨_, _, _, rfl⟩ | ⟨_, _, _, rfl⟩ | ⟨_, _, _, _, _, _, _, _, _, _, rfl⟩ | ⟨_, _, _, rfl⟩ | ⟨_, _, _, rfl⟩ | ⟨_, _, _, rfl⟩ | ⟨_, _, _, rfl⟩ | ⟨_, _, _, rfl⟩ | ⟨_, _, _, rfl⟩ | ⟨_, _, _, rfl⟩ | ⟨_, _, _, rfl⟩ | ⟨_, _, _, _, _, _, _, _, _, _, rfl⟩
  all_goals rfl
theorem frCR_told {zr u : RS2} {a0 : Int32} {r : Int32} (h : pR_told zr a0 r u) : gC u = gC zr := by
  rcases h with ⟨_, _, rfl⟩ | ⟨_, _, rfl⟩ | ⟨_, _, rfl⟩ | ⟨_, _, rfl⟩ | ⟨_, _, rfl⟩ | ⟨_, _, _, rfl⟩ | ⟨_, _, _, rfl⟩ | ⟨_, _, rfl⟩ | ⟨_, _, _, rfl⟩ | ⟨_, _, _, rfl⟩ | ⟨_, _, _, _, _, _, _, _, _, rfl⟩
  all_goals rfl
theorem frCC_good {zc u : CS} {x : Int32} {y : Int32} {wh : Int32} {r : Int32} (h : pC_good zc x y wh r u) : fC u = fC zc := by
  rcases h with ⟨_, _, _, _, rfl⟩ | ⟨_, _, _, _, rfl⟩ | ⟨_, _, _, rfl⟩ | ⟨_, _, rfl⟩
  all_goals rfl
theorem frCR_good {zr u : RS2} {x : Int32} {y : Int32} {wh : Int32} {r : Int32} (h : pR_good zr x y wh r u) : gC u = gC zr := by
  rcases h with ⟨_, _, _, _, rfl⟩ | ⟨_, _, _, _, rfl⟩ | ⟨_, _, _, rfl⟩ | ⟨_, _, rfl⟩
  all_goals rfl
theorem frCC_money {zc u : CS} {t : Int32} {wh : Int32} {r : Int64} (h : pC_money zc t wh r u) : fC u = fC zc := by
  rcases h with ⟨_, _, rfl⟩ | ⟨_, _, _, _, _, rfl⟩ | ⟨_, _, _, _, _, rfl⟩ | ⟨_, _, _, _, _, rfl⟩ | ⟨_, _, _, _, _, rfl⟩ | ⟨_, _, _, _, _, rfl⟩ | ⟨_, _, _, _, _, rfl⟩ | ⟨_, _, _, _, _, _, _, _, _, _, rfl⟩
  all_goals rfl
theorem frCR_money {zr u : RS2} {t : Int32} {wh : Int32} {r : Int64} (h : pR_money zr t wh r u) : gC u = gC zr := by
  rcases h with ⟨_, _, rfl⟩ | ⟨_, _, _, _, _, rfl⟩ | ⟨_, _, _, _, _, rfl⟩ | ⟨_, _, _, _, _, rfl⟩ | ⟨_, _, _, _, _, rfl⟩ | ⟨_, _, _, _, _, rfl⟩ | ⟨_, _, _, _, _, rfl⟩ | ⟨_, _, _, _, _, _, _, _, _, _, rfl⟩
  all_goals rfl
theorem frCC_spend {zc u : CS} {t : Int32} {wh : Int32} {pn : Int32} {r : Int64} (h : pC_spend zc t wh pn r u) : fC u = fC zc := by
  rcases h with ⟨_, _, rfl⟩ | ⟨_, _, _, _, _, rfl⟩ | ⟨_, _, _, _, _, _, _, _, rfl⟩ | ⟨_, _, _, _, _, _, _, _, rfl⟩ | ⟨_, _, _, _, _, _, _, rfl⟩ | ⟨_, _, _, _, _, _, rfl⟩
  all_goals rfl
theorem frCR_spend {zr u : RS2} {t : Int32} {wh : Int32} {pn : Int32} {r : Int64} (h : pR_spend zr t wh pn r u) : gC u = gC zr := by
  rcases h with ⟨_, _, rfl⟩ | ⟨_, _, _, _, _, rfl⟩ | ⟨_, _, _, _, _, _, rfl⟩ | ⟨_, _, _, _, _, _, _, _, _, _, rfl⟩ | ⟨_, _, _, _, _, _, _, _, _, _, rfl⟩ | ⟨_, _, _, _, _, _, _, _, _, _, rfl⟩ | ⟨_, _, _, _, _, _, _, _, _, _, rfl⟩ | ⟨_, _, _, _, _, _, _, _, _, _, rfl⟩ | ⟨_, _, _, _, _, _, _, _, _, _, rfl⟩ | ⟨_, _, _, _, _, _, _, _, _, _, rfl⟩ | ⟨_, _, _, _, _, _, _, _, _, _, rfl⟩ | ⟨_, _, _, _, _, _, _, rfl⟩
  all_goals rfl
theorem frCC_debt {zc u : CS} {g : Int32} {r : Int64} (h : pC_debt zc g r u) : fC u = fC zc := by
  rcases h with ⟨_, _, rfl⟩ | ⟨_, _, _, _, _, rfl⟩ | ⟨_, _, _, _, _, rfl⟩ | ⟨_, _, _, _, _, rfl⟩
  all_goals rfl
theorem frCR_debt {zr u : RS2} {g : Int32} {r : Int64} (h : pR_debt zr g r u) : gC u = gC zr := by
  rcases h with ⟨_, _, rfl⟩ | ⟨_, _, _, _, rfl⟩
  all_goals rfl
theorem frCC_tell {zc u : CS} {g : Int32} {r : Int32} (h : pC_tell zc g r u) : fC u = fC zc := by
  rcases h with ⟨_, _, rfl⟩ | ⟨_, _, _, _, _, rfl⟩ | ⟨_, _, _, _, _, rfl⟩ | ⟨_, _, _, _, _, rfl⟩
  all_goals rfl
theorem frCR_tell {zr u : RS2} {g : Int32} {r : Int32} (h : pR_tell zr g r u) : gC u = gC zr := by
  rcases h with ⟨_, _, rfl⟩ | ⟨_, _, _, _, _, _, _, rfl⟩ | ⟨_, _, _, _, _, _, _, rfl⟩ | ⟨_, _, _, _, _, _, rfl⟩ | ⟨_, _, _, _, _, _, _, _, rfl⟩ | ⟨_, _, _, _, _, _, _, _, rfl⟩ | ⟨_, _, _, _, _, _, _, rfl⟩ | ⟨_, _, _, _, _, _, _, _, rfl⟩ | ⟨_, _, _, _, _, _, _, _, rfl⟩ | ⟨_, _, _, _, _, _, _, rfl⟩
  all_goals rfl
theorem frCC_greet {zc u : CS} {g : Int32} {r : Int32} (h : pC_greet zc g r u) : fC u = fC zc := by
  rcases h with ⟨_, _, rfl⟩ | ⟨_, _, _, _, _, rfl⟩ | ⟨_, _, _, _, _, rfl⟩ | ⟨_, _, _, _, _, rfl⟩
  all_goals rfl
theorem frCR_greet {zr u : RS2} {g : Int32} {r : Int32} (h : pR_greet zr g r u) : gC u = gC zr := by
  rcases h with ⟨_, _, rfl⟩ | ⟨_, _, _, _, _, _, _, rfl⟩ | ⟨_, _, _, _, _, _, _, rfl⟩ | ⟨_, _, _, _, _, _, _, rfl⟩ | ⟨_, _, _, _, _, _, _, rfl⟩ | ⟨_, _, _, _, _, rfl⟩
  all_goals rfl
theorem frCC_as {zc u : CS} {g : Int32} {k : Int32} {r : Int32} (h : pC_as zc g k r u) : fC u = fC zc := by
  rcases h with ⟨_, _, rfl⟩ | ⟨_, _, _, _, _, _, _, rfl⟩ | ⟨_, _, _, _, _, _, _, rfl⟩ | ⟨_, _, _, _, _, _, rfl⟩ | ⟨_, _, _, _, _, _, _, rfl⟩ | ⟨_, _, _, _, _, _, _, rfl⟩ | ⟨_, _, _, _, _, _, rfl⟩ | ⟨_, _, _, _, _, _, _, rfl⟩ | ⟨_, _, _, _, _, _, _, rfl⟩ | ⟨_, _, _, _, _, _, rfl⟩
  all_goals rfl
theorem frCR_as {zr u : RS2} {g : Int32} {k : Int32} {r : Int32} (h : pR_as zr g k r u) : gC u = gC zr := by
  rcases h with ⟨_, _, rfl⟩ | ⟨_, _, _, _, _, _, rfl⟩ | ⟨_, _, _, _, _, _, rfl⟩ | ⟨_, _, _, _, _, rfl⟩
  all_goals rfl
theorem frCC_taken {zc u : CS} {t : Int32} {wh : Int32} {r : Int32} (h : pC_taken zc t wh r u) : fC u = fC zc := by
  rcases h with ⟨_, _, rfl⟩ | ⟨_, _, _, _, _, _, rfl⟩ | ⟨_, _, _, _, _, _, rfl⟩ | ⟨_, _, _, _, _, _, rfl⟩ | ⟨_, _, _, _, _, _, _, rfl⟩ | ⟨_, _, _, _, _, _, _, rfl⟩ | ⟨_, _, _, _, _, _, rfl⟩ | ⟨_, _, _, _, _, _, _, _, _, _, rfl⟩ | ⟨_, _, _, _, _, _, rfl⟩ | ⟨_, _, _, _, _, _, rfl⟩ | ⟨_, _, _, _, _, _, rfl⟩ | ⟨_, _, _, _, _, _, _, rfl⟩ | ⟨_, _, _, _, _, _, _, rfl⟩ | ⟨_, _, _, _, _, _, rfl⟩ | ⟨_, _, _, _, _, _, _, _, _, _, rfl⟩ | ⟨_, _, _, _, _, _, rfl⟩ | ⟨_, _, _, _, _, _, rfl⟩ | ⟨_, _, _, _, _, _, rfl⟩ | ⟨_, _, _, _, _, _, _, rfl⟩ | ⟨_, _, _, _, _, _, _, rfl⟩ | ⟨_, _, _, _, _, _, rfl⟩ | ⟨_, _, _, _, _, _, _, _, _, _, rfl⟩
  all_goals rfl
theorem frCR_taken {zr u : RS2} {t : Int32} {wh : Int32} {r : Int32} (h : pR_taken zr t wh r u) : gC u = gC zr := by
  rcases h with ⟨_, _, rfl⟩ | ⟨_, _, _, _, _, rfl⟩ | ⟨_, _, _, _, _, rfl⟩ | ⟨_, _, _, _, _, rfl⟩ | ⟨_, _, _, _, _, _, rfl⟩ | ⟨_, _, _, _, _, _, rfl⟩ | ⟨_, _, _, _, _, rfl⟩ | ⟨_, _, _, _, _, _, _, _, _, rfl⟩
  all_goals rfl
theorem frCC_settle {zc u : CS} {t : Int32} {r : Int64} (h : pC_settle zc t r u) : fC u = fC zc := by
  rcases h with ⟨_, _, rfl⟩ | ⟨_, _, _, _, _, _, rfl⟩ | ⟨_, _, _, _, _, _, rfl⟩ | ⟨_, _, _, _, _, _, rfl⟩ | ⟨_, _, _, _, _, _, rfl⟩ | ⟨_, _, _, _, _, _, rfl⟩ | ⟨_, _, _, _, _, _, rfl⟩
  all_goals rfl
theorem frCR_settle {zr u : RS2} {t : Int32} {r : Int64} (h : pR_settle zr t r u) : gC u = gC zr := by
  rcases h with ⟨_, _, rfl⟩ | ⟨_, _, _, _, _, _, _, _, _, _, _, _, rfl⟩ | ⟨_, _, _, _, _, _, _, _, _, _, _, _, rfl⟩ | ⟨_, _, _, _, _, _, _, _, _, _, _, _, rfl⟩ | ⟨_, _, _, _, _, _, _, _, _, _, _, _, rfl⟩ | ⟨_, _, _, _, _, _, _, _, _, _, _, _, rfl⟩ | ⟨_, _, _, _, _, _, _, _, _, _, _, _, rfl⟩ | ⟨_, _, _, _, _, _, _, _, _, _, _, _, rfl⟩ | ⟨_, _, _, _, _, _, _, _, _, _, _, _, rfl⟩ | ⟨_, _, _, _, _, _, _, _, _, _, _, _, rfl⟩ | ⟨_, _, _, _, _, _, _, _, _, _, _, _, rfl⟩ | ⟨_, _, _, _, _, _, _, _, _, _, _, _, rfl⟩ | ⟨_, _, _, _, _, _, _, _, _, _, _, _, rfl⟩ | ⟨_, _, _, _, _, _, _, _, _, _, _, _, rfl⟩ | ⟨_, _, _, _, _, _, _, _, _, _, _, _, rfl⟩ | ⟨_, _, _, _, _, _, _, _, _, _, _, _, rfl⟩ | ⟨_, _, _, _, _, _, _, _, _, _, _, _, rfl⟩ | ⟨_, _, _, _, _, rfl⟩
  all_goals rfl
theorem frCC_about {zc u : CS} {pp : Int32} {wh : Int32} {r : Int32} (h : pC_about zc pp wh r u) : fC u = fC zc := by
  rcases h with ⟨_, _, rfl⟩ | ⟨_, _, _, _, _, _, rfl⟩ | ⟨_, _, _, _, _, _, rfl⟩ | ⟨_, _, _, _, _, _, rfl⟩ | ⟨_, _, _, _, _, _, rfl⟩ | ⟨_, _, _, _, _, _, rfl⟩ | ⟨_, _, _, _, _, _, rfl⟩ | ⟨_, _, _, _, _, _, rfl⟩ | ⟨_, _, _, _, _, _, _, _, _, _, _, _, rfl⟩ | ⟨_, _, _, _, _, _, rfl⟩ | ⟨_, _, _, _, _, _, rfl⟩ | ⟨_, _, _, _, _, _, rfl⟩ | ⟨_, _, _, _, _, _, rfl⟩ | ⟨_, _, _, _, _, _, rfl⟩ | ⟨_, _, _, _, _, _, rfl⟩ | ⟨_, _, _, _, _, _, rfl⟩ | ⟨_, _, _, _, _, _, _, _, _, _, _, _, rfl⟩
  all_goals rfl
theorem frCR_about {zr u : RS2} {pp : Int32} {wh : Int32} {r : Int32} (h : pR_about zr pp wh r u) : gC u = gC zr := by
  rcases h with ⟨_, _, rfl⟩ | ⟨_, _, _, _, _, rfl⟩ | ⟨_, _, _, _, _, rfl⟩ | ⟨_, _, _, _, _, rfl⟩ | ⟨_, _, _, _, _, rfl⟩ | ⟨_, _, _, _, _, rfl⟩ | ⟨_, _, _, _, _, _, _, rfl⟩ | ⟨_, _, _, _, _, rfl⟩ | ⟨_, _, _, _, _, _, _, _, _, _, _, rfl⟩
  all_goals rfl
theorem frCC_gang {zc u : CS} {k : Int32} {r : Int32} (h : pC_gang zc k r u) : fC u = fC zc := by
  rcases h with ⟨_, _, _, _, _, _, rfl⟩ | ⟨_, _, _, _, _, _, rfl⟩ | ⟨_, _, _, _, _, _, rfl⟩ | ⟨_, _, _, rfl⟩ | ⟨_, _, rfl⟩
  all_goals rfl
theorem frCR_gang {zr u : RS2} {k : Int32} {r : Int32} (h : pR_gang zr k r u) : gC u = gC zr := by
  rcases h with ⟨_, _, _, _, rfl⟩ | ⟨_, _, _, rfl⟩ | ⟨_, _, rfl⟩
  all_goals rfl
theorem frCC_parcel {zc u : CS} {t : Int32} {tn : Int32} {gd : Int32} {r : Int32} (h : pC_parcel zc t tn gd r u) : fC u = fC zc := by
  rcases h with ⟨_, _, rfl⟩ | ⟨_, _, _, _, _, rfl⟩ | ⟨_, _, _, _, _, _, _, _, _, _, rfl⟩ | ⟨_, _, _, _, _, _, _, _, rfl⟩ | ⟨_, _, _, _, _, _, _, rfl⟩ | ⟨_, _, _, _, _, _, rfl⟩
  all_goals rfl
theorem frCR_parcel {zr u : RS2} {t : Int32} {tn : Int32} {gd : Int32} {r : Int32} (h : pR_parcel zr t tn gd r u) : gC u = gC zr := by
  rcases h with ⟨_, _, rfl⟩ | ⟨_, _, _, _, _, rfl⟩ | ⟨_, _, _, _, _, _, _, _, _, rfl⟩ | ⟨_, _, _, _, _, _, _, _, rfl⟩ | ⟨_, _, _, _, _, _, _, rfl⟩ | ⟨_, _, _, _, _, _, rfl⟩
  all_goals rfl
theorem frCC_pitch {zc u : CS} {x : Int32} {y : Int32} {xx : Int32} {yy : Int32} {tn : Int32} {r : Int32} (h : pC_pitch zc x y xx yy tn r u) : fC u = fC zc := by
  rcases h with ⟨_, _, rfl⟩ | ⟨_, _, _, _, rfl⟩ | ⟨_, _, _, _, _, rfl⟩ | ⟨_, _, _, _, _, _, _, _, _, _, rfl⟩ | ⟨_, _, _, _, _, _, _, _, rfl⟩ | ⟨_, _, _, _, _, _, _, rfl⟩ | ⟨_, _, _, _, _, _, rfl⟩ | ⟨_, _, _, rfl⟩
  all_goals rfl
theorem frCR_pitch {zr u : RS2} {x : Int32} {y : Int32} {xx : Int32} {yy : Int32} {tn : Int32} {r : Int32} (h : pR_pitch zr x y xx yy tn r u) : gC u = gC zr := by
  rcases h with ⟨_, _, rfl⟩ | ⟨_, _, _, _, rfl⟩ | ⟨_, _, _, _, _, rfl⟩ | ⟨_, _, _, _, _, _, _, _, _, rfl⟩ | ⟨_, _, _, _, _, _, _, _, rfl⟩ | ⟨_, _, _, _, _, _, _, _, _, rfl⟩ | ⟨_, _, _, _, _, _, rfl⟩ | ⟨_, _, _, rfl⟩
  all_goals rfl
theorem frCC_auction {zc u : CS} {pp : Int32} {sv : Int32} {r : Int32} (h : pC_auction zc pp sv r u) : fC u = fC zc := by
  rcases h with ⟨_, _, rfl⟩ | ⟨_, _, _, _, _, _, _, _, rfl⟩ | ⟨_, _, _, _, _, _, _, rfl⟩ | ⟨_, _, _, _, _, _, _, rfl⟩ | ⟨_, _, _, _, _, _, _, rfl⟩ | ⟨_, _, _, _, _, _, rfl⟩ | ⟨_, _, _, _, _, _, rfl⟩
  all_goals rfl
theorem frCR_auction {zr u : RS2} {pp : Int32} {sv : Int32} {r : Int32} (h : pR_auction zr pp sv r u) : gC u = gC zr := by
  rcases h with ⟨_, _, rfl⟩ | ⟨_, _, _, _, _, _, _, _, rfl⟩ | ⟨_, _, _, _, _, _, _, _, _, rfl⟩ | ⟨_, _, _, _, _, _, _, _, _, rfl⟩ | ⟨_, _, _, _, _, rfl⟩
  all_goals rfl
theorem frCC_bid {zc u : CS} {g : Int32} {sv : Int32} {r : Int32} (h : pC_bid zc g sv r u) : fC u = fC zc := by
  rcases h with ⟨_, _, rfl⟩ | ⟨_, _, _, _, _, rfl⟩ | ⟨_, _, _, _, _, _, _, _, _, _, _, rfl⟩ | ⟨_, _, _, _, _, _, _, _, _, _, _, rfl⟩ | ⟨_, _, _, _, _, _, _, _, _, _, rfl⟩ | ⟨_, _, _, _, _, _, _, _, rfl⟩ | ⟨_, _, _, _, _, _, _, _, _, _, _, rfl⟩ | ⟨_, _, _, _, _, _, _, _, _, _, _, rfl⟩ | ⟨_, _, _, _, _, _, _, _, _, _, rfl⟩ | ⟨_, _, _, _, _, _, _, _, rfl⟩ | ⟨_, _, _, _, _, _, _, _, _, _, _, rfl⟩ | ⟨_, _, _, _, _, _, _, _, _, _, _, rfl⟩ | ⟨_, _, _, _, _, _, _, _, _, _, rfl⟩ | ⟨_, _, _, _, _, _, _, _, rfl⟩ | ⟨_, _, _, _, _, _, _, _, _, rfl⟩ | ⟨_, _, _, _, _, _, _, _, _, _, _, rfl⟩ | ⟨_, _, _, _, _, _, _, _, _, _, _, rfl⟩ | ⟨_, _, _, _, _, _, _, _, _, _, rfl⟩ | ⟨_, _, _, _, _, _, _, _, rfl⟩ | ⟨_, _, _, _, _, _, _, _, _, rfl⟩ | ⟨_, _, _, _, _, _, _, _, _, _, _, rfl⟩ | ⟨_, _, _, _, _, _, _, _, _, _, _, rfl⟩ | ⟨_, _, _, _, _, _, _, _, _, _, rfl⟩ | ⟨_, _, _, _, _, _, _, _, rfl⟩ | ⟨_, _, _, _, _, _, _, _, _, rfl⟩ | ⟨_, _, _, _, _, _, _, _, _, _, _, rfl⟩ | ⟨_, _, _, _, _, _, _, _, _, _, _, rfl⟩ | ⟨_, _, _, _, _, _, _, _, _, _, rfl⟩ | ⟨_, _, _, _, _, _, _, _, rfl⟩
  all_goals rfl
theorem frCR_bid {zr u : RS2} {g : Int32} {sv : Int32} {r : Int32} (h : pR_bid zr g sv r u) : gC u = gC zr := by
  rcases h with ⟨_, _, rfl⟩ | ⟨_, _, _, _, _, _, _, _, rfl⟩ | ⟨_, _, _, _, _, _, _, _, _, _, rfl⟩ | ⟨_, _, _, _, _, _, _, _, _, _, rfl⟩ | ⟨_, _, _, _, _, _, _, _, _, rfl⟩ | ⟨_, _, _, _, _, _, _, rfl⟩ | ⟨_, _, _, _, _, _, _, _, rfl⟩ | ⟨_, _, _, _, _, _, _, _, _, _, rfl⟩ | ⟨_, _, _, _, _, _, _, _, _, _, rfl⟩ | ⟨_, _, _, _, _, _, _, _, _, rfl⟩ | ⟨_, _, _, _, _, _, _, rfl⟩ | ⟨_, _, _, _, _, rfl⟩
  all_goals rfl
theorem frCC_strike {zc u : CS} {r : Int32} (h : pC_strike zc r u) : fC u = fC zc := by
  rcases h with ⟨_, _, rfl⟩ | ⟨_, _, _, rfl⟩ | ⟨_, _, _, _, _, _, _, _, _, _, _, rfl⟩ | ⟨_, _, _, _, _, rfl⟩ | ⟨_, _, _, _, _, _, _, _, _, _, _, rfl⟩ | ⟨_, _, _, _, _, rfl⟩ | ⟨_, _, _, _, _, _, _, _, _, _, _, rfl⟩ | ⟨_, _, _, _, _, rfl⟩
  all_goals rfl
theorem frCR_strike {zr u : RS2} {r : Int32} (h : pR_strike zr r u) : gC u = gC zr := by
  rcases h with ⟨_, _, _, rfl⟩ | ⟨_, _, _, _, _, _, _, _, _, rfl⟩ | ⟨_, _, _, _, _, _, _, _, rfl⟩ | ⟨_, _, _, _, _, _, _, rfl⟩
  all_goals rfl
theorem frCC_foretold {zc u : CS} {pp : Int32} {wh : Int32} {r : Int64} (h : pC_foretold zc pp wh r u) : fC u = fC zc := by
  rcases h with ⟨_, _, rfl⟩ | ⟨_, _, _, _, _, _, rfl⟩ | ⟨_, _, _, _, _, _, rfl⟩ | ⟨_, _, _, _, _, rfl⟩
  all_goals rfl
theorem frCR_foretold {zr u : RS2} {pp : Int32} {wh : Int32} {r : Int64} (h : pR_foretold zr pp wh r u) : gC u = gC zr := by
  rcases h with ⟨_, _, rfl⟩ | ⟨_, _, _, _, _, _, rfl⟩ | ⟨_, _, _, _, _, _, rfl⟩ | ⟨_, _, _, _, _, rfl⟩
  all_goals rfl
theorem frCC_sheet {zc u : CS} {k : Int32} {ln : Int32} {n : Int32} {r : Int32} (h : pC_sheet zc k ln n r u) : fC u = fC zc := by
  rcases h with ⟨_, _, rfl⟩ | ⟨_, _, _, _, _, rfl⟩ | ⟨_, _, _, _, _, _, _, rfl⟩ | ⟨_, _, _, _, _, _, _, rfl⟩ | ⟨_, _, _, _, _, _, rfl⟩
  all_goals rfl
theorem frCR_sheet {zr u : RS2} {k : Int32} {ln : Int32} {n : Int32} {r : Int32} (h : pR_sheet zr k ln n r u) : gC u = gC zr := by
  rcases h with ⟨_, _, rfl⟩ | ⟨_, _, _, _, _, rfl⟩ | ⟨_, _, _, _, _, _, _, _, _, _, rfl⟩ | ⟨_, _, _, _, _, _, _, rfl⟩ | ⟨_, _, _, _, _, _, rfl⟩
  all_goals rfl
theorem frCC_lose {zc u : CS} {k : Int32} {r : Int32} (h : pC_lose zc k r u) : fC u = fC zc := by
  rcases h with ⟨_, _, rfl⟩ | ⟨_, _, _, _, _, rfl⟩ | ⟨_, _, _, _, _, rfl⟩
  all_goals rfl
theorem frCR_lose {zr u : RS2} {k : Int32} {r : Int32} (h : pR_lose zr k r u) : gC u = gC zr := by
  rcases h with ⟨_, _, rfl⟩ | ⟨_, _, _, _, _, rfl⟩ | ⟨_, _, _, _, _, rfl⟩
  all_goals rfl
theorem frCC_put {zc u : CS} {k : Int32} {ix : Int32} {v : Int32} {r : Int32} (h : pC_put zc k ix v r u) : fC u = fC zc := by
  rcases h with ⟨_, _, rfl⟩ | ⟨_, _, _, _, _, _, rfl⟩ | ⟨_, _, _, _, _, _, rfl⟩ | ⟨_, _, _, _, _, rfl⟩
  all_goals rfl
theorem frCR_put {zr u : RS2} {k : Int32} {i : Int32} {v : Int32} {r : Int32} (h : pR_put zr k i v r u) : gC u = gC zr := by
  rcases h with ⟨_, _, rfl⟩ | ⟨_, _, _, _, _, _, _, _, _, _, rfl⟩ | ⟨_, _, _, _, _, _, _, _, _, _, rfl⟩ | ⟨_, _, _, _, _, _, _, _, _, rfl⟩ | ⟨_, _, _, _, _, rfl⟩
  all_goals rfl
theorem frCC_cell {zc u : CS} {k : Int32} {ix : Int32} {ln : Int32} {r : Int64} (h : pC_cell zc k ix ln r u) : fC u = fC zc := by
  rcases h with ⟨_, _, rfl⟩ | ⟨_, _, _, _, _, _, rfl⟩ | ⟨_, _, _, _, _, _, _, _, rfl⟩ | ⟨_, _, _, _, _, _, _, _, rfl⟩ | ⟨_, _, _, _, _, _, _, rfl⟩ | ⟨_, _, _, _, _, rfl⟩
  all_goals rfl
theorem frCR_cell {zr u : RS2} {k : Int32} {i : Int32} {ln : Int32} {r : Int64} (h : pR_cell zr k i ln r u) : gC u = gC zr := by
  rcases h with ⟨_, _, rfl⟩ | ⟨_, _, _, _, _, _, _, _, _, _, rfl⟩ | ⟨_, _, _, _, _, _, _, rfl⟩ | ⟨_, _, _, _, _, _, _, _, _, _, _, rfl⟩ | ⟨_, _, _, _, _, _, _, _, rfl⟩ | ⟨_, _, _, _, _, _, _, rfl⟩ | ⟨_, _, _, _, _, rfl⟩
  all_goals rfl
theorem frCC_suspects {zc u : CS} {r : Int32} (h : pC_suspects zc r u) : fC u = fC zc := by
  rcases h with ⟨_, rfl⟩
  all_goals rfl
theorem frCR_suspects {zr u : RS2} {r : Int32} (h : pR_suspects zr r u) : gC u = gC zr := by
  rcases h with ⟨_, rfl⟩
  all_goals rfl
theorem frCC_suspect {zc u : CS} {ix : Int32} {r : Int32} (h : pC_suspect zc ix r u) : fC u = fC zc := by
  rcases h with ⟨_, _, rfl⟩ | ⟨_, _, _, _, _, rfl⟩
  all_goals rfl
theorem frCR_suspect {zr u : RS2} {ix : Int32} {r : Int32} (h : pR_suspect zr ix r u) : gC u = gC zr := by
  rcases h with ⟨_, _, rfl⟩ | ⟨_, _, _, _, _, rfl⟩
  all_goals rfl
theorem frCC_skill {zc u : CS} {g : Int32} {wh : Int32} {r : Int64} (h : pC_skill zc g wh r u) : fC u = fC zc := by
  rcases h with ⟨_, _, rfl⟩ | ⟨_, _, _, _, _, _, _, _, _, rfl⟩ | ⟨_, _, _, _, _, _, _, _, _, rfl⟩ | ⟨_, _, _, _, _, _, _, _, _, rfl⟩ | ⟨_, _, _, _, _, _, _, _, _, rfl⟩ | ⟨_, _, _, _, _, rfl⟩
  all_goals rfl
theorem frCR_skill {zr u : RS2} {g : Int32} {wh : Int32} {r : Int64} (h : pR_skill zr g wh r u) : gC u = gC zr := by
  rcases h with ⟨_, _, rfl⟩ | ⟨_, _, _, _, _, _, _, _, _, rfl⟩ | ⟨_, _, _, _, _, _, _, _, _, rfl⟩ | ⟨_, _, _, _, _, _, rfl⟩ | ⟨_, _, _, _, _, rfl⟩
  all_goals rfl
theorem frCC_copy {zc u : CS} {k : Int32} {ix : Int32} {ot : Int32} {jx : Int32} {n : Int32} {r : Int32} (h : pC_copy zc k ix ot jx n r u) : fC u = fC zc := by
  rcases h with ⟨_, _, _, rfl⟩ | ⟨_, _, _, _, _, rfl⟩ | ⟨_, _, _, _, _, rfl⟩ | ⟨_, _, _, _, _, _, rfl⟩ | ⟨_, _, _, _, _, _, _, _, _, rfl⟩ | ⟨_, _, _, _, _, _, _, _, _, _, _, _, _, _, _, _, _, _, rfl⟩ | ⟨_, _, _, _, _, _, _, _, _, _, rfl⟩ | ⟨_, _, _, _, _, _, _, _, rfl⟩ | ⟨_, _, _, _, _, _, _, rfl⟩ | ⟨_, _, _, _, _, _, _, _, _, rfl⟩ | ⟨_, _, _, _, _, _, _, _, _, _, _, _, rfl⟩ | ⟨_, _, _, _, _, _, _, _, _, _, _, _, _, _, _, _, _, _, _, _, _, rfl⟩ | ⟨_, _, _, _, _, _, _, _, _, _, _, _, _, rfl⟩ | ⟨_, _, _, _, _, _, _, _, _, _, _, rfl⟩ | ⟨_, _, _, _, _, _, _, _, _, _, rfl⟩
  all_goals rfl
theorem frCR_copy {zr u : RS2} {k : Int32} {ix : Int32} {ot : Int32} {jx : Int32} {n : Int32} {r : Int32} (h : pR_copy zr k ix ot jx n r u) : gC u = gC zr := by
  rcases h with ⟨_, _, rfl⟩ | ⟨_, _, _, _, _, rfl⟩ | ⟨_, _, _, _, _, _, _, _, rfl⟩ | ⟨_, _, _, _, _, _, _, _, _, _, _, rfl⟩ | ⟨_, _, _, _, _, _, _, _, _, _, _, _, _, _, _, _, _, _, _, _, rfl⟩ | ⟨_, _, _, _, _, _, _, _, _, _, _, _, rfl⟩ | ⟨_, _, _, _, _, _, _, _, _, _, rfl⟩ | ⟨_, _, _, _, _, _, _, _, _, rfl⟩
  all_goals rfl
theorem stC_trace {zc u : CS} {zr w9 : RS2} {r r' : Int32} (h : relC zc zr) (hc : pC_trace zc r u) (hr : pR_trace zr r' w9) : relC u w9 := relC_of (frCC_trace hc) (frCR_trace hr) h
theorem stC_fault {zc u : CS} {zr w9 : RS2} {r r' : Int32} (h : relC zc zr) (hc : pC_fault zc r u) (hr : pR_fault zr r' w9) : relC u w9 := relC_of (frCC_fault hc) (frCR_fault hr) h
theorem stC_told {zc u : CS} {zr w9 : RS2} {a0 : Int32} {r r' : Int32} (h : relC zc zr) (hc : pC_told zc a0 r u) (hr : pR_told zr a0 r' w9) : relC u w9 := relC_of (frCC_told hc) (frCR_told hr) h
theorem stC_good {zc u : CS} {zr w9 : RS2} {x : Int32} {y : Int32} {wh : Int32} {r r' : Int32} (h : relC zc zr) (hc : pC_good zc x y wh r u) (hr : pR_good zr x y wh r' w9) : relC u w9 := relC_of (frCC_good hc) (frCR_good hr) h
theorem stC_money {zc u : CS} {zr w9 : RS2} {t : Int32} {wh : Int32} {r r' : Int64} (h : relC zc zr) (hc : pC_money zc t wh r u) (hr : pR_money zr t wh r' w9) : relC u w9 := relC_of (frCC_money hc) (frCR_money hr) h
theorem stC_spend {zc u : CS} {zr w9 : RS2} {t : Int32} {wh : Int32} {pn : Int32} {r r' : Int64} (h : relC zc zr) (hc : pC_spend zc t wh pn r u) (hr : pR_spend zr t wh pn r' w9) : relC u w9 := relC_of (frCC_spend hc) (frCR_spend hr) h
theorem stC_debt {zc u : CS} {zr w9 : RS2} {g : Int32} {r r' : Int64} (h : relC zc zr) (hc : pC_debt zc g r u) (hr : pR_debt zr g r' w9) : relC u w9 := relC_of (frCC_debt hc) (frCR_debt hr) h
theorem stC_tell {zc u : CS} {zr w9 : RS2} {g : Int32} {r r' : Int32} (h : relC zc zr) (hc : pC_tell zc g r u) (hr : pR_tell zr g r' w9) : relC u w9 := relC_of (frCC_tell hc) (frCR_tell hr) h
theorem stC_greet {zc u : CS} {zr w9 : RS2} {g : Int32} {r r' : Int32} (h : relC zc zr) (hc : pC_greet zc g r u) (hr : pR_greet zr g r' w9) : relC u w9 := relC_of (frCC_greet hc) (frCR_greet hr) h
theorem stC_as {zc u : CS} {zr w9 : RS2} {g : Int32} {k : Int32} {r r' : Int32} (h : relC zc zr) (hc : pC_as zc g k r u) (hr : pR_as zr g k r' w9) : relC u w9 := relC_of (frCC_as hc) (frCR_as hr) h
theorem stC_taken {zc u : CS} {zr w9 : RS2} {t : Int32} {wh : Int32} {r r' : Int32} (h : relC zc zr) (hc : pC_taken zc t wh r u) (hr : pR_taken zr t wh r' w9) : relC u w9 := relC_of (frCC_taken hc) (frCR_taken hr) h
theorem stC_settle {zc u : CS} {zr w9 : RS2} {t : Int32} {r r' : Int64} (h : relC zc zr) (hc : pC_settle zc t r u) (hr : pR_settle zr t r' w9) : relC u w9 := relC_of (frCC_settle hc) (frCR_settle hr) h
theorem stC_about {zc u : CS} {zr w9 : RS2} {pp : Int32} {wh : Int32} {r r' : Int32} (h : relC zc zr) (hc : pC_about zc pp wh r u) (hr : pR_about zr pp wh r' w9) : relC u w9 := relC_of (frCC_about hc) (frCR_about hr) h
theorem stC_gang {zc u : CS} {zr w9 : RS2} {k : Int32} {r r' : Int32} (h : relC zc zr) (hc : pC_gang zc k r u) (hr : pR_gang zr k r' w9) : relC u w9 := relC_of (frCC_gang hc) (frCR_gang hr) h
theorem stC_parcel {zc u : CS} {zr w9 : RS2} {t : Int32} {tn : Int32} {gd : Int32} {r r' : Int32} (h : relC zc zr) (hc : pC_parcel zc t tn gd r u) (hr : pR_parcel zr t tn gd r' w9) : relC u w9 := relC_of (frCC_parcel hc) (frCR_parcel hr) h
theorem stC_pitch {zc u : CS} {zr w9 : RS2} {x : Int32} {y : Int32} {xx : Int32} {yy : Int32} {tn : Int32} {r r' : Int32} (h : relC zc zr) (hc : pC_pitch zc x y xx yy tn r u) (hr : pR_pitch zr x y xx yy tn r' w9) : relC u w9 := relC_of (frCC_pitch hc) (frCR_pitch hr) h
theorem stC_auction {zc u : CS} {zr w9 : RS2} {pp : Int32} {sv : Int32} {r r' : Int32} (h : relC zc zr) (hc : pC_auction zc pp sv r u) (hr : pR_auction zr pp sv r' w9) : relC u w9 := relC_of (frCC_auction hc) (frCR_auction hr) h
theorem stC_bid {zc u : CS} {zr w9 : RS2} {g : Int32} {sv : Int32} {r r' : Int32} (h : relC zc zr) (hc : pC_bid zc g sv r u) (hr : pR_bid zr g sv r' w9) : relC u w9 := relC_of (frCC_bid hc) (frCR_bid hr) h
theorem stC_strike {zc u : CS} {zr w9 : RS2} {r r' : Int32} (h : relC zc zr) (hc : pC_strike zc r u) (hr : pR_strike zr r' w9) : relC u w9 := relC_of (frCC_strike hc) (frCR_strike hr) h
theorem stC_foretold {zc u : CS} {zr w9 : RS2} {pp : Int32} {wh : Int32} {r r' : Int64} (h : relC zc zr) (hc : pC_foretold zc pp wh r u) (hr : pR_foretold zr pp wh r' w9) : relC u w9 := relC_of (frCC_foretold hc) (frCR_foretold hr) h
theorem stC_sheet {zc u : CS} {zr w9 : RS2} {k : Int32} {ln : Int32} {n : Int32} {r r' : Int32} (h : relC zc zr) (hc : pC_sheet zc k ln n r u) (hr : pR_sheet zr k ln n r' w9) : relC u w9 := relC_of (frCC_sheet hc) (frCR_sheet hr) h
theorem stC_lose {zc u : CS} {zr w9 : RS2} {k : Int32} {r r' : Int32} (h : relC zc zr) (hc : pC_lose zc k r u) (hr : pR_lose zr k r' w9) : relC u w9 := relC_of (frCC_lose hc) (frCR_lose hr) h
theorem stC_put {zc u : CS} {zr w9 : RS2} {k : Int32} {ix : Int32} {v : Int32} {r r' : Int32} (h : relC zc zr) (hc : pC_put zc k ix v r u) (hr : pR_put zr k ix v r' w9) : relC u w9 := relC_of (frCC_put hc) (frCR_put hr) h
theorem stC_cell {zc u : CS} {zr w9 : RS2} {k : Int32} {ix : Int32} {ln : Int32} {r r' : Int64} (h : relC zc zr) (hc : pC_cell zc k ix ln r u) (hr : pR_cell zr k ix ln r' w9) : relC u w9 := relC_of (frCC_cell hc) (frCR_cell hr) h
theorem stC_suspects {zc u : CS} {zr w9 : RS2} {r r' : Int32} (h : relC zc zr) (hc : pC_suspects zc r u) (hr : pR_suspects zr r' w9) : relC u w9 := relC_of (frCC_suspects hc) (frCR_suspects hr) h
theorem stC_suspect {zc u : CS} {zr w9 : RS2} {ix : Int32} {r r' : Int32} (h : relC zc zr) (hc : pC_suspect zc ix r u) (hr : pR_suspect zr ix r' w9) : relC u w9 := relC_of (frCC_suspect hc) (frCR_suspect hr) h
theorem stC_skill {zc u : CS} {zr w9 : RS2} {g : Int32} {wh : Int32} {r r' : Int64} (h : relC zc zr) (hc : pC_skill zc g wh r u) (hr : pR_skill zr g wh r' w9) : relC u w9 := relC_of (frCC_skill hc) (frCR_skill hr) h
theorem stC_copy {zc u : CS} {zr w9 : RS2} {k : Int32} {ix : Int32} {ot : Int32} {jx : Int32} {n : Int32} {r r' : Int32} (h : relC zc zr) (hc : pC_copy zc k ix ot jx n r u) (hr : pR_copy zr k ix ot jx n r' w9) : relC u w9 := relC_of (frCC_copy hc) (frCR_copy hr) h
