theorem frBC_trace {zc u : CS} {r : Int32} (h : pC_trace zc r u) : fB u = fB zc := by
  rcases h with ⟨_, rfl⟩
  all_goals rfl
theorem frBR_trace {zr u : RS2} {r : Int32} (h : pR_trace zr r u) : gB u = gB zr := by
  rcases h with ⟨_, rfl⟩
  all_goals rfl
theorem frBC_fault {zc u : CS} {r : Int32} (h : pC_fault zc r u) : fB u = fB zc := by
  rcases h with ⟨_, rfl⟩
  all_goals rfl
theorem frBR_fault {zr u : RS2} {r : Int32} (h : pR_fault zr r u) : gB u = gB zr := by
  rcases h with ⟨_, rfl⟩
  all_goals rfl
theorem frBC_told {zc u : CS} {a0 : Int32} {r : Int32} (h : pC_told zc a0 r u) : fB u = fB zc := by
  rcases h with ⟨_, _, _, rfl⟩ | ⟨_, _, _, rfl⟩ | ⟨_, _, _, rfl⟩ | ⟨_, _, _, rfl⟩ | ⟨_, _, _, rfl⟩ | ⟨_, _, _, rfl⟩ | ⟨_, _, _, rfl⟩ | ⟨_, _, _, rfl⟩ | ⟨_, _, _, _, _, _, _, _, _, _, rfl⟩ | ⟨_, _, _, rfl⟩ | ⟨_, _, _, rfl⟩ | ⟨_, _, _, rfl⟩ | ⟨_, _, _, rfl⟩ | ⟨_, _, _, rfl⟩ | ⟨_, _, _, rfl⟩ | ⟨_, _, _, rfl⟩ | ⟨_, _, _, rfl⟩ | ⟨_, _, _, _, _, _, _, _, _, _, rfl⟩
  all_goals rfl
theorem frBR_told {zr u : RS2} {a0 : Int32} {r : Int32} (h : pR_told zr a0 r u) : gB u = gB zr := by
  rcases h with ⟨_, _, rfl⟩ | ⟨_, _, rfl⟩ | ⟨_, _, rfl⟩ | ⟨_, _, rfl⟩ | ⟨_, _, rfl⟩ | ⟨_, _, _, rfl⟩ | ⟨_, _, _, rfl⟩ | ⟨_, _, rfl⟩ | ⟨_, _, _, rfl⟩ | ⟨_, _, _, rfl⟩ | ⟨_, _, _, _, _, _, _, _, _, rfl⟩
  all_goals rfl
theorem frBC_good {zc u : CS} {x : Int32} {y : Int32} {wh : Int32} {r : Int32} (h : pC_good zc x y wh r u) : fB u = fB zc := by
  rcases h with ⟨_, _, _, _, rfl⟩ | ⟨_, _, _, _, rfl⟩ | ⟨_, _, _, rfl⟩ | ⟨_, _, rfl⟩
  all_goals rfl
theorem frBR_good {zr u : RS2} {x : Int32} {y : Int32} {wh : Int32} {r : Int32} (h : pR_good zr x y wh r u) : gB u = gB zr := by
  rcases h with ⟨_, _, _, _, rfl⟩ | ⟨_, _, _, _, rfl⟩ | ⟨_, _, _, rfl⟩ | ⟨_, _, rfl⟩
  all_goals rfl
theorem frBC_money {zc u : CS} {t : Int32} {wh : Int32} {r : Int64} (h : pC_money zc t wh r u) : fB u = fB zc := by
  rcases h with ⟨_, _, rfl⟩ | ⟨_, _, _, _, _, rfl⟩ | ⟨_, _, _, _, _, rfl⟩ | ⟨_, _, _, _, _, rfl⟩ | ⟨_, _, _, _, _, rfl⟩ | ⟨_, _, _, _, _, rfl⟩ | ⟨_, _, _, _, _, rfl⟩ | ⟨_, _, _, _, _, _, _, _, _, _, rfl⟩
  all_goals rfl
theorem frBR_money {zr u : RS2} {t : Int32} {wh : Int32} {r : Int64} (h : pR_money zr t wh r u) : gB u = gB zr := by
  rcases h with ⟨_, _, rfl⟩ | ⟨_, _, _, _, _, rfl⟩ | ⟨_, _, _, _, _, rfl⟩ | ⟨_, _, _, _, _, rfl⟩ | ⟨_, _, _, _, _, rfl⟩ | ⟨_, _, _, _, _, rfl⟩ | ⟨_, _, _, _, _, rfl⟩ | ⟨_, _, _, _, _, _, _, _, _, _, rfl⟩
  all_goals rfl
theorem frBC_spend {zc u : CS} {t : Int32} {wh : Int32} {pn : Int32} {r : Int64} (h : pC_spend zc t wh pn r u) : fB u = fB zc := by
  rcases h with ⟨_, _, rfl⟩ | ⟨_, _, _, _, _, rfl⟩ | ⟨_, _, _, _, _, _, _, _, rfl⟩ | ⟨_, _, _, _, _, _, _, _, rfl⟩ | ⟨_, _, _, _, _, _, _, rfl⟩ | ⟨_, _, _, _, _, _, rfl⟩
  all_goals rfl
theorem frBR_spend {zr u : RS2} {t : Int32} {wh : Int32} {pn : Int32} {r : Int64} (h : pR_spend zr t wh pn r u) : gB u = gB zr := by
  rcases h with ⟨_, _, rfl⟩ | ⟨_, _, _, _, _, rfl⟩ | ⟨_, _, _, _, _, _, rfl⟩ | ⟨_, _, _, _, _, _, _, _, _, _, rfl⟩ | ⟨_, _, _, _, _, _, _, _, _, _, rfl⟩ | ⟨_, _, _, _, _, _, _, _, _, _, rfl⟩ | ⟨_, _, _, _, _, _, _, _, _, _, rfl⟩ | ⟨_, _, _, _, _, _, _, _, _, _, rfl⟩ | ⟨_, _, _, _, _, _, _, _, _, _, rfl⟩ | ⟨_, _, _, _, _, _, _, _, _, _, rfl⟩ | ⟨_, _, _, _, _, _, _, _, _, _, rfl⟩ | ⟨_, _, _, _, _, _, _, rfl⟩
  all_goals rfl
theorem frBC_debt {zc u : CS} {g : Int32} {r : Int64} (h : pC_debt zc g r u) : fB u = fB zc := by
  rcases h with ⟨_, _, rfl⟩ | ⟨_, _, _, _, _, rfl⟩ | ⟨_, _, _, _, _, rfl⟩ | ⟨_, _, _, _, _, rfl⟩
  all_goals rfl
theorem frBR_debt {zr u : RS2} {g : Int32} {r : Int64} (h : pR_debt zr g r u) : gB u = gB zr := by
  rcases h with ⟨_, _, rfl⟩ | ⟨_, _, _, _, rfl⟩
  all_goals rfl
theorem frBC_tell {zc u : CS} {g : Int32} {r : Int32} (h : pC_tell zc g r u) : fB u = fB zc := by
  rcases h with ⟨_, _, rfl⟩ | ⟨_, _, _, _, _, rfl⟩ | ⟨_, _, _, _, _, rfl⟩ | ⟨_, _, _, _, _, rfl⟩
  all_goals rfl
theorem frBR_tell {zr u : RS2} {g : Int32} {r : Int32} (h : pR_tell zr g r u) : gB u = gB zr := by
  rcases h with ⟨_, _, rfl⟩ | ⟨_, _, _, _, _, _, _, rfl⟩ | ⟨_, _, _, _, _, _, _, rfl⟩ | ⟨_, _, _, _, _, _, rfl⟩ | ⟨_, _, _, _, _, _, _, _, rfl⟩ | ⟨_, _, _, _, _, _, _, _, rfl⟩ | ⟨_, _, _, _, _, _, _, rfl⟩ | ⟨_, _, _, _, _, _, _, _, rfl⟩ | ⟨_, _, _, _, _, _, _, _, rfl⟩ | ⟨_, _, _, _, _, _, _, rfl⟩
  all_goals rfl
theorem frBC_greet {zc u : CS} {g : Int32} {r : Int32} (h : pC_greet zc g r u) : fB u = fB zc := by
  rcases h with ⟨_, _, rfl⟩ | ⟨_, _, _, _, _, rfl⟩ | ⟨_, _, _, _, _, rfl⟩ | ⟨_, _, _, _, _, rfl⟩
  all_goals rfl
theorem frBR_greet {zr u : RS2} {g : Int32} {r : Int32} (h : pR_greet zr g r u) : gB u = gB zr := by
  rcases h with ⟨_, _, rfl⟩ | ⟨_, _, _, _, _, _, _, rfl⟩ | ⟨_, _, _, _, _, _, _, rfl⟩ | ⟨_, _, _, _, _, _, _, rfl⟩ | ⟨_, _, _, _, _, _, _, rfl⟩ | ⟨_, _, _, _, _, rfl⟩
  all_goals rfl
theorem frBC_as {zc u : CS} {g : Int32} {k : Int32} {r : Int32} (h : pC_as zc g k r u) : fB u = fB zc := by
  rcases h with ⟨_, _, rfl⟩ | ⟨_, _, _, _, _, _, _, rfl⟩ | ⟨_, _, _, _, _, _, _, rfl⟩ | ⟨_, _, _, _, _, _, rfl⟩ | ⟨_, _, _, _, _, _, _, rfl⟩ | ⟨_, _, _, _, _, _, _, rfl⟩ | ⟨_, _, _, _, _, _, rfl⟩ | ⟨_, _, _, _, _, _, _, rfl⟩ | ⟨_, _, _, _, _, _, _, rfl⟩ | ⟨_, _, _, _, _, _, rfl⟩
  all_goals rfl
theorem frBR_as {zr u : RS2} {g : Int32} {k : Int32} {r : Int32} (h : pR_as zr g k r u) : gB u = gB zr := by
  rcases h with ⟨_, _, rfl⟩ | ⟨_, _, _, _, _, _, rfl⟩ | ⟨_, _, _, _, _, _, rfl⟩ | ⟨_, _, _, _, _, rfl⟩
  all_goals rfl
theorem frBC_taken {zc u : CS} {t : Int32} {wh : Int32} {r : Int32} (h : pC_taken zc t wh r u) : fB u = fB zc := by
  rcases h with ⟨_, _, rfl⟩ | ⟨_, _, _, _, _, _, rfl⟩ | ⟨_, _, _, _, _, _, rfl⟩ | ⟨_, _, _, _, _, _, rfl⟩ | ⟨_, _, _, _, _, _, _, rfl⟩ | ⟨_, _, _, _, _, _, _, rfl⟩ | ⟨_, _, _, _, _, _, rfl⟩ | ⟨_, _, _, _, _, _, _, _, _, _, rfl⟩ | ⟨_, _, _, _, _, _, rfl⟩ | ⟨_, _, _, _, _, _, rfl⟩ | ⟨_, _, _, _, _, _, rfl⟩ | ⟨_, _, _, _, _, _, _, rfl⟩ | ⟨_, _, _, _, _, _, _, rfl⟩ | ⟨_, _, _, _, _, _, rfl⟩ | ⟨_, _, _, _, _, _, _, _, _, _, rfl⟩ | ⟨_, _, _, _, _, _, rfl⟩ | ⟨_, _, _, _, _, _, rfl⟩ | ⟨_, _, _, _, _, _, rfl⟩ | ⟨_, _, _, _, _, _, _, rfl⟩ | ⟨_, _, _, _, _, _, _, rfl⟩ | ⟨_, _, _, _, _, _, rfl⟩ | ⟨_, _, _, _, _, _, _, _, _, _, rfl⟩
  all_goals rfl
theorem frBR_taken {zr u : RS2} {t : Int32} {wh : Int32} {r : Int32} (h : pR_taken zr t wh r u) : gB u = gB zr := by
  rcases h with ⟨_, _, rfl⟩ | ⟨_, _, _, _, _, rfl⟩ | ⟨_, _, _, _, _, rfl⟩ | ⟨_, _, _, _, _, rfl⟩ | ⟨_, _, _, _, _, _, rfl⟩ | ⟨_, _, _, _, _, _, rfl⟩ | ⟨_, _, _, _, _, rfl⟩ | ⟨_, _, _, _, _, _, _, _, _, rfl⟩
  all_goals rfl
theorem frBC_settle {zc u : CS} {t : Int32} {r : Int64} (h : pC_settle zc t r u) : fB u = fB zc := by
  rcases h with ⟨_, _, rfl⟩ | ⟨_, _, _, _, _, _, rfl⟩ | ⟨_, _, _, _, _, _, rfl⟩ | ⟨_, _, _, _, _, _, rfl⟩ | ⟨_, _, _, _, _, _, rfl⟩ | ⟨_, _, _, _, _, _, rfl⟩ | ⟨_, _, _, _, _, _, rfl⟩
  all_goals rfl
theorem frBR_settle {zr u : RS2} {t : Int32} {r : Int64} (h : pR_settle zr t r u) : gB u = gB zr := by
  rcases h with ⟨_, _, rfl⟩ | ⟨_, _, _, _, _, _, _, _, _, _, _, _, rfl⟩ | ⟨_, _, _, _, _, _, _, _, _, _, _, _, rfl⟩ | ⟨_, _, _, _, _, _, _, _, _, _, _, _, rfl⟩ | ⟨_, _, _, _, _, _, _, _, _, _, _, _, rfl⟩ | ⟨_, _, _, _, _, _, _, _, _, _, _, _, rfl⟩ | ⟨_, _, _, _, _, _, _, _, _, _, _, _, rfl⟩ | ⟨_, _, _, _, _, _, _, _, _, _, _, _, rfl⟩ | ⟨_, _, _, _, _, _, _, _, _, _, _, _, rfl⟩ | ⟨_, _, _, _, _, _, _, _, _, _, _, _, rfl⟩ | ⟨_, _, _, _, _, _, _, _, _, _, _, _, rfl⟩ | ⟨_, _, _, _, _, _, _, _, _, _, _, _, rfl⟩ | ⟨_, _, _, _, _, _, _, _, _, _, _, _, rfl⟩ | ⟨_, _, _, _, _, _, _, _, _, _, _, _, rfl⟩ | ⟨_, _, _, _, _, _, _, _, _, _, _, _, rfl⟩ | ⟨_, _, _, _, _, _, _, _, _, _, _, _, rfl⟩ | ⟨_, _, _, _, _, _, _, _, _, _, _, _, rfl⟩ | ⟨_, _, _, _, _, rfl⟩
  all_goals rfl
theorem frBC_about {zc u : CS} {pp : Int32} {wh : Int32} {r : Int32} (h : pC_about zc pp wh r u) : fB u = fB zc := by
  rcases h with ⟨_, _, rfl⟩ | ⟨_, _, _, _, _, _, rfl⟩ | ⟨_, _, _, _, _, _, rfl⟩ | ⟨_, _, _, _, _, _, rfl⟩ | ⟨_, _, _, _, _, _, rfl⟩ | ⟨_, _, _, _, _, _, rfl⟩ | ⟨_, _, _, _, _, _, rfl⟩ | ⟨_, _, _, _, _, _, rfl⟩ | ⟨_, _, _, _, _, _, _, _, _, _, _, _, rfl⟩ | ⟨_, _, _, _, _, _, rfl⟩ | ⟨_, _, _, _, _, _, rfl⟩ | ⟨_, _, _, _, _, _, rfl⟩ | ⟨_, _, _, _, _, _, rfl⟩ | ⟨_, _, _, _, _, _, rfl⟩ | ⟨_, _, _, _, _, _, rfl⟩ | ⟨_, _, _, _, _, _, rfl⟩ | ⟨_, _, _, _, _, _, _, _, _, _, _, _, rfl⟩
  all_goals rfl
theorem frBR_about {zr u : RS2} {pp : Int32} {wh : Int32} {r : Int32} (h : pR_about zr pp wh r u) : gB u = gB zr := by
  rcases h with ⟨_, _, rfl⟩ | ⟨_, _, _, _, _, rfl⟩ | ⟨_, _, _, _, _, rfl⟩ | ⟨_, _, _, _, _, rfl⟩ | ⟨_, _, _, _, _, rfl⟩ | ⟨_, _, _, _, _, rfl⟩ | ⟨_, _, _, _, _, _, _, rfl⟩ | ⟨_, _, _, _, _, rfl⟩ | ⟨_, _, _, _, _, _, _, _, _, _, _, rfl⟩
  all_goals rfl
theorem frBC_gang {zc u : CS} {k : Int32} {r : Int32} (h : pC_gang zc k r u) : fB u = fB zc := by
  rcases h with ⟨_, _, _, _, _, _, rfl⟩ | ⟨_, _, _, _, _, _, rfl⟩ | ⟨_, _, _, _, _, _, rfl⟩ | ⟨_, _, _, rfl⟩ | ⟨_, _, rfl⟩
  all_goals rfl
theorem frBR_gang {zr u : RS2} {k : Int32} {r : Int32} (h : pR_gang zr k r u) : gB u = gB zr := by
  rcases h with ⟨_, _, _, _, rfl⟩ | ⟨_, _, _, rfl⟩ | ⟨_, _, rfl⟩
  all_goals rfl
theorem frBC_parcel {zc u : CS} {t : Int32} {tn : Int32} {gd : Int32} {r : Int32} (h : pC_parcel zc t tn gd r u) : fB u = fB zc := by
  rcases h with ⟨_, _, rfl⟩ | ⟨_, _, _, _, _, rfl⟩ | ⟨_, _, _, _, _, _, _, _, _, _, rfl⟩ | ⟨_, _, _, _, _, _, _, _, rfl⟩ | ⟨_, _, _, _, _, _, _, rfl⟩ | ⟨_, _, _, _, _, _, rfl⟩
  all_goals rfl
theorem frBR_parcel {zr u : RS2} {t : Int32} {tn : Int32} {gd : Int32} {r : Int32} (h : pR_parcel zr t tn gd r u) : gB u = gB zr := by
  rcases h with ⟨_, _, rfl⟩ | ⟨_, _, _, _, _, rfl⟩ | ⟨_, _, _, _, _, _, _, _, _, rfl⟩ | ⟨_, _, _, _, _, _, _, _, rfl⟩ | ⟨_, _, _, _, _, _, _, rfl⟩ | ⟨_, _, _, _, _, _, rfl⟩
  all_goals rfl
theorem frBC_pitch {zc u : CS} {x : Int32} {y : Int32} {xx : Int32} {yy : Int32} {tn : Int32} {r : Int32} (h : pC_pitch zc x y xx yy tn r u) : fB u = fB zc := by
  rcases h with ⟨_, _, rfl⟩ | ⟨_, _, _, _, rfl⟩ | ⟨_, _, _, _, _, rfl⟩ | ⟨_, _, _, _, _, _, _, _, _, _, rfl⟩ | ⟨_, _, _, _, _, _, _, _, rfl⟩ | ⟨_, _, _, _, _, _, _, rfl⟩ | ⟨_, _, _, _, _, _, rfl⟩ | ⟨_, _, _, rfl⟩
  all_goals rfl
theorem frBR_pitch {zr u : RS2} {x : Int32} {y : Int32} {xx : Int32} {yy : Int32} {tn : Int32} {r : Int32} (h : pR_pitch zr x y xx yy tn r u) : gB u = gB zr := by
  rcases h with ⟨_, _, rfl⟩ | ⟨_, _, _, _, rfl⟩ | ⟨_, _, _, _, _, rfl⟩ | ⟨_, _, _, _, _, _, _, _, _, rfl⟩ | ⟨_, _, _, _, _, _, _, _, rfl⟩ | ⟨_, _, _, _, _, _, _, _, _, rfl⟩ | ⟨_, _, _, _, _, _, rfl⟩ | ⟨_, _, _, rfl⟩
  all_goals rfl
theorem frBC_auction {zc u : CS} {pp : Int32} {sv : Int32} {r : Int32} (h : pC_auction zc pp sv r u) : fB u = fB zc := by
  rcases h with ⟨_, _, rfl⟩ | ⟨_, _, _, _, _, _, _, _, rfl⟩ | ⟨_, _, _, _, _, _, _, rfl⟩ | ⟨_, _, _, _, _, _, _, rfl⟩ | ⟨_, _, _, _, _, _, _, rfl⟩ | ⟨_, _, _, _, _, _, rfl⟩ | ⟨_, _, _, _, _, _, rfl⟩
  all_goals rfl
theorem frBR_auction {zr u : RS2} {pp : Int32} {sv : Int32} {r : Int32} (h : pR_auction zr pp sv r u) : gB u = gB zr := by
  rcases h with ⟨_, _, rfl⟩ | ⟨_, _, _, _, _, _, _, _, rfl⟩ | ⟨_, _, _, _, _, _, _, _, _, rfl⟩ | ⟨_, _, _, _, _, _, _, _, _, rfl⟩ | ⟨_, _, _, _, _, rfl⟩
  all_goals rfl
theorem frBC_bid {zc u : CS} {g : Int32} {sv : Int32} {r : Int32} (h : pC_bid zc g sv r u) : fB u = fB zc := by
  rcases h with ⟨_, _, rfl⟩ | ⟨_, _, _, _, _, rfl⟩ | ⟨_, _, _, _, _, _, _, _, _, _, _, rfl⟩ | ⟨_, _, _, _, _, _, _, _, _, _, _, rfl⟩ | ⟨_, _, _, _, _, _, _, _, _, _, rfl⟩ | ⟨_, _, _, _, _, _, _, _, rfl⟩ | ⟨_, _, _, _, _, _, _, _, _, _, _, rfl⟩ | ⟨_, _, _, _, _, _, _, _, _, _, _, rfl⟩ | ⟨_, _, _, _, _, _, _, _, _, _, rfl⟩ | ⟨_, _, _, _, _, _, _, _, rfl⟩ | ⟨_, _, _, _, _, _, _, _, _, _, _, rfl⟩ | ⟨_, _, _, _, _, _, _, _, _, _, _, rfl⟩ | ⟨_, _, _, _, _, _, _, _, _, _, rfl⟩ | ⟨_, _, _, _, _, _, _, _, rfl⟩ | ⟨_, _, _, _, _, _, _, _, _, rfl⟩ | ⟨_, _, _, _, _, _, _, _, _, _, _, rfl⟩ | ⟨_, _, _, _, _, _, _, _, _, _, _, rfl⟩ | ⟨_, _, _, _, _, _, _, _, _, _, rfl⟩ | ⟨_, _, _, _, _, _, _, _, rfl⟩ | ⟨_, _, _, _, _, _, _, _, _, rfl⟩ | ⟨_, _, _, _, _, _, _, _, _, _, _, rfl⟩ | ⟨_, _, _, _, _, _, _, _, _, _, _, rfl⟩ | ⟨_, _, _, _, _, _, _, _, _, _, rfl⟩ | ⟨_, _, _, _, _, _, _, _, rfl⟩ | ⟨_, _, _, _, _, _, _, _, _, rfl⟩ | ⟨_, _, _, _, _, _, _, _, _, _, _, rfl⟩ | ⟨_, _, _, _, _, _, _, _, _, _, _, rfl⟩ | ⟨_, _, _, _, _, _, _, _, _, _, rfl⟩ | ⟨_, _, _, _, _, _, _, _, rfl⟩
  all_goals rfl
theorem frBR_bid {zr u : RS2} {g : Int32} {sv : Int32} {r : Int32} (h : pR_bid zr g sv r u) : gB u = gB zr := by
  rcases h with ⟨_, _, rfl⟩ | ⟨_, _, _, _, _, _, _, _, rfl⟩ | ⟨_, _, _, _, _, _, _, _, _, _, rfl⟩ | ⟨_, _, _, _, _, _, _, _, _, _, rfl⟩ | ⟨_, _, _, _, _, _, _, _, _, rfl⟩ | ⟨_, _, _, _, _, _, _, rfl⟩ | ⟨_, _, _, _, _, _, _, _, rfl⟩ | ⟨_, _, _, _, _, _, _, _, _, _, rfl⟩ | ⟨_, _, _, _, _, _, _, _, _, _, rfl⟩ | ⟨_, _, _, _, _, _, _, _, _, rfl⟩ | ⟨_, _, _, _, _, _, _, rfl⟩ | ⟨_, _, _, _, _, rfl⟩
  all_goals rfl
theorem frBC_strike {zc u : CS} {r : Int32} (h : pC_strike zc r u) : fB u = fB zc := by
  rcases h with ⟨_, _, rfl⟩ | ⟨_, _, _, rfl⟩ | ⟨_, _, _, _, _, _, _, _, _, _, _, rfl⟩ | ⟨_, _, _, _, _, rfl⟩ | ⟨_, _, _, _, _, _, _, _, _, _, _, rfl⟩ | ⟨_, _, _, _, _, rfl⟩ | ⟨_, _, _, _, _, _, _, _, _, _, _, rfl⟩ | ⟨_, _, _, _, _, rfl⟩
  all_goals rfl
theorem frBR_strike {zr u : RS2} {r : Int32} (h : pR_strike zr r u) : gB u = gB zr := by
  rcases h with ⟨_, _, _, rfl⟩ | ⟨_, _, _, _, _, _, _, _, _, rfl⟩ | ⟨_, _, _, _, _, _, _, _, rfl⟩ | ⟨_, _, _, _, _, _, _, rfl⟩
  all_goals rfl
theorem frBC_foretold {zc u : CS} {pp : Int32} {wh : Int32} {r : Int64} (h : pC_foretold zc pp wh r u) : fB u = fB zc := by
  rcases h with ⟨_, _, rfl⟩ | ⟨_, _, _, _, _, _, rfl⟩ | ⟨_, _, _, _, _, _, rfl⟩ | ⟨_, _, _, _, _, rfl⟩
  all_goals rfl
theorem frBR_foretold {zr u : RS2} {pp : Int32} {wh : Int32} {r : Int64} (h : pR_foretold zr pp wh r u) : gB u = gB zr := by
  rcases h with ⟨_, _, rfl⟩ | ⟨_, _, _, _, _, _, rfl⟩ | ⟨_, _, _, _, _, _, rfl⟩ | ⟨_, _, _, _, _, rfl⟩
  all_goals rfl
theorem frBC_cell {zc u : CS} {k : Int32} {ix : Int32} {ln : Int32} {r : Int64} (h : pC_cell zc k ix ln r u) : fB u = fB zc := by
  rcases h with ⟨_, _, rfl⟩ | ⟨_, _, _, _, _, _, rfl⟩ | ⟨_, _, _, _, _, _, _, _, rfl⟩ | ⟨_, _, _, _, _, _, _, _, rfl⟩ | ⟨_, _, _, _, _, _, _, rfl⟩ | ⟨_, _, _, _, _, rfl⟩
  all_goals rfl
theorem frBR_cell {zr u : RS2} {k : Int32} {i : Int32} {ln : Int32} {r : Int64} (h : pR_cell zr k i ln r u) : gB u = gB zr := by
  rcases h with ⟨_, _, rfl⟩ | ⟨_, _, _, _, _, _, _, _, _, _, rfl⟩ | ⟨_, _, _, _, _, _, _, rfl⟩ | ⟨_, _, _, _, _, _, _, _, _, _, _, rfl⟩ | ⟨_, _, _, _, _, _, _, _, rfl⟩ | ⟨_, _, _, _, _, _, _, rfl⟩ | ⟨_, _, _, _, _, rfl⟩
  all_goals rfl
theorem frBC_find {zc u : CS} {x : Int32} {y : Int32} {lo : Int32} {hi : Int32} {r : Int32} (h : pC_find zc x y lo hi r u) : fB u = fB zc := by
  rcases h with ⟨_, _, _, rfl⟩ | ⟨_, _, _, _, rfl⟩ | ⟨_, _, _, _, _, _, _, _, _, _, _, _, _, _, _, rfl⟩ | ⟨_, _, _, _, _, rfl⟩ | ⟨_, _, rfl⟩
  all_goals rfl
theorem frBR_find {zr u : RS2} {x : Int32} {y : Int32} {lo : Int32} {hi : Int32} {r : Int32} (h : pR_find zr x y lo hi r u) : gB u = gB zr := by
  rcases h with ⟨_, _, _, rfl⟩ | ⟨_, _, _, _, _, _, _, _, _, _, _, _, _, _, _, _, _, _, _, rfl⟩ | ⟨_, _, _, _, rfl⟩ | ⟨_, _, rfl⟩
  all_goals rfl
theorem frBC_rise {zc u : CS} {dd : Int32} {r : Int32} (h : pC_rise zc dd r u) : fB u = fB zc := by
  rcases h with ⟨_, _, _, _, _, _, _, _, _, _, rfl⟩ | ⟨_, _, _, rfl⟩ | ⟨_, _, rfl⟩
  all_goals rfl
theorem frBR_rise {zr u : RS2} {dd : Int32} {r : Int32} (h : pR_rise zr dd r u) : gB u = gB zr := by
  rcases h with ⟨_, _, _, _, _, _, _, _, _, _, _, rfl⟩ | ⟨_, _, _, rfl⟩ | ⟨_, _, rfl⟩
  all_goals rfl
theorem frBC_suspects {zc u : CS} {r : Int32} (h : pC_suspects zc r u) : fB u = fB zc := by
  rcases h with ⟨_, rfl⟩
  all_goals rfl
theorem frBR_suspects {zr u : RS2} {r : Int32} (h : pR_suspects zr r u) : gB u = gB zr := by
  rcases h with ⟨_, rfl⟩
  all_goals rfl
theorem frBC_suspect {zc u : CS} {ix : Int32} {r : Int32} (h : pC_suspect zc ix r u) : fB u = fB zc := by
  rcases h with ⟨_, _, rfl⟩ | ⟨_, _, _, _, _, rfl⟩
  all_goals rfl
theorem frBR_suspect {zr u : RS2} {ix : Int32} {r : Int32} (h : pR_suspect zr ix r u) : gB u = gB zr := by
  rcases h with ⟨_, _, rfl⟩ | ⟨_, _, _, _, _, rfl⟩
  all_goals rfl
theorem frBC_skill {zc u : CS} {g : Int32} {wh : Int32} {r : Int64} (h : pC_skill zc g wh r u) : fB u = fB zc := by
  rcases h with ⟨_, _, rfl⟩ | ⟨_, _, _, _, _, _, _, _, _, rfl⟩ | ⟨_, _, _, _, _, _, _, _, _, rfl⟩ | ⟨_, _, _, _, _, _, _, _, _, rfl⟩ | ⟨_, _, _, _, _, _, _, _, _, rfl⟩ | ⟨_, _, _, _, _, rfl⟩
  all_goals rfl
theorem frBR_skill {zr u : RS2} {g : Int32} {wh : Int32} {r : Int64} (h : pR_skill zr g wh r u) : gB u = gB zr := by
  rcases h with ⟨_, _, rfl⟩ | ⟨_, _, _, _, _, _, _, _, _, rfl⟩ | ⟨_, _, _, _, _, _, _, _, _, rfl⟩ | ⟨_, _, _, _, _, _, rfl⟩ | ⟨_, _, _, _, _, rfl⟩
  all_goals rfl
theorem frBC_chart {zc u : CS} {k : Int32} {ln : Int32} {ix : Int32} {n : Int32} {sv : Int32} {r : Int32} (h : pC_chart zc k ln ix n sv r u) : fB u = fB zc := by
  rcases h with ⟨_, _, rfl⟩ | ⟨_, _, _, _, _, _, _, _, _, _, _, _, _, _, _, _, _, _, rfl⟩ | ⟨_, _, _, _, _, _, _, _, _, _, _, _, _, _, _, _, _, _, _, _, _, _, _, _, _, _, _, _, _, rfl⟩ | ⟨_, _, _, _, _, _, _, _, _, _, _, _, _, _, _, _, _, _, rfl⟩ | ⟨_, _, _, _, _, _, _, rfl⟩ | ⟨_, _, _, _, _, _, rfl⟩ | ⟨_, _, _, _, _, rfl⟩
  all_goals rfl
theorem frBR_chart {zr u : RS2} {k : Int32} {ln : Int32} {ix : Int32} {nq : Int32} {sv : Int32} {r : Int32} (h : pR_chart zr k ln ix nq sv r u) : gB u = gB zr := by
  rcases h with ⟨_, _, rfl⟩ | ⟨_, _, _, _, _, _, _, _, _, _, rfl⟩ | ⟨_, _, _, _, _, _, _, _, _, _, _, _, _, _, _, _, _, _, _, _, _, _, _, _, _, _, _, _, _, _, _, _, rfl⟩ | ⟨_, _, _, _, _, _, _, _, _, _, _, _, _, _, _, _, _, _, _, _, _, _, _, _, _, _, rfl⟩ | ⟨_, _, _, _, _, _, _, _, _, _, _, rfl⟩ | ⟨_, _, _, _, _, _, _, _, _, rfl⟩ | ⟨_, _, _, _, _, _, _, _, rfl⟩ | ⟨_, _, _, _, _, _, _, _, _, _, _, rfl⟩ | ⟨_, _, _, _, _, _, _, _, _, _, _, _, _, _, _, _, _, _, _, _, _, _, _, _, _, _, _, _, _, _, _, _, _, rfl⟩ | ⟨_, _, _, _, _, _, _, _, _, _, _, _, _, _, _, _, _, _, _, _, _, _, _, _, _, _, _, rfl⟩ | ⟨_, _, _, _, _, _, _, _, _, _, _, _, rfl⟩ | ⟨_, _, _, _, _, _, _, _, _, _, rfl⟩ | ⟨_, _, _, _, _, _, _, _, _, rfl⟩ | ⟨_, _, _, _, _, _, _, _, rfl⟩ | ⟨_, _, _, _, _, _, rfl⟩ | ⟨_, _, _, _, _, rfl⟩
  all_goals rfl
theorem stB_trace {zc u : CS} {zr w9 : RS2} {r r' : Int32} (h : relB zc zr) (hc : pC_trace zc r u) (hr : pR_trace zr r' w9) : relB u w9 := relB_of (frBC_trace hc) (frBR_trace hr) h
theorem stB_fault {zc u : CS} {zr w9 : RS2} {r r' : Int32} (h : relB zc zr) (hc : pC_fault zc r u) (hr : pR_fault zr r' w9) : relB u w9 := relB_of (frBC_fault hc) (frBR_fault hr) h
theorem stB_told {zc u : CS} {zr w9 : RS2} {a0 : Int32} {r r' : Int32} (h : relB zc zr) (hc : pC_told zc a0 r u) (hr : pR_told zr a0 r' w9) : relB u w9 := relB_of (frBC_told hc) (frBR_told hr) h
theorem stB_good {zc u : CS} {zr w9 : RS2} {x : Int32} {y : Int32} {wh : Int32} {r r' : Int32} (h : relB zc zr) (hc : pC_good zc x y wh r u) (hr : pR_good zr x y wh r' w9) : relB u w9 := relB_of (frBC_good hc) (frBR_good hr) h
theorem stB_money {zc u : CS} {zr w9 : RS2} {t : Int32} {wh : Int32} {r r' : Int64} (h : relB zc zr) (hc : pC_money zc t wh r u) (hr : pR_money zr t wh r' w9) : relB u w9 := relB_of (frBC_money hc) (frBR_money hr) h
theorem stB_spend {zc u : CS} {zr w9 : RS2} {t : Int32} {wh : Int32} {pn : Int32} {r r' : Int64} (h : relB zc zr) (hc : pC_spend zc t wh pn r u) (hr : pR_spend zr t wh pn r' w9) : relB u w9 := relB_of (frBC_spend hc) (frBR_spend hr) h
theorem stB_debt {zc u : CS} {zr w9 : RS2} {g : Int32} {r r' : Int64} (h : relB zc zr) (hc : pC_debt zc g r u) (hr : pR_debt zr g r' w9) : relB u w9 := relB_of (frBC_debt hc) (frBR_debt hr) h
theorem stB_tell {zc u : CS} {zr w9 : RS2} {g : Int32} {r r' : Int32} (h : relB zc zr) (hc : pC_tell zc g r u) (hr : pR_tell zr g r' w9) : relB u w9 := relB_of (frBC_tell hc) (frBR_tell hr) h
theorem stB_greet {zc u : CS} {zr w9 : RS2} {g : Int32} {r r' : Int32} (h : relB zc zr) (hc : pC_greet zc g r u) (hr : pR_greet zr g r' w9) : relB u w9 := relB_of (frBC_greet hc) (frBR_greet hr) h
theorem stB_as {zc u : CS} {zr w9 : RS2} {g : Int32} {k : Int32} {r r' : Int32} (h : relB zc zr) (hc : pC_as zc g k r u) (hr : pR_as zr g k r' w9) : relB u w9 := relB_of (frBC_as hc) (frBR_as hr) h
theorem stB_taken {zc u : CS} {zr w9 : RS2} {t : Int32} {wh : Int32} {r r' : Int32} (h : relB zc zr) (hc : pC_taken zc t wh r u) (hr : pR_taken zr t wh r' w9) : relB u w9 := relB_of (frBC_taken hc) (frBR_taken hr) h
theorem stB_settle {zc u : CS} {zr w9 : RS2} {t : Int32} {r r' : Int64} (h : relB zc zr) (hc : pC_settle zc t r u) (hr : pR_settle zr t r' w9) : relB u w9 := relB_of (frBC_settle hc) (frBR_settle hr) h
theorem stB_about {zc u : CS} {zr w9 : RS2} {pp : Int32} {wh : Int32} {r r' : Int32} (h : relB zc zr) (hc : pC_about zc pp wh r u) (hr : pR_about zr pp wh r' w9) : relB u w9 := relB_of (frBC_about hc) (frBR_about hr) h
theorem stB_gang {zc u : CS} {zr w9 : RS2} {k : Int32} {r r' : Int32} (h : relB zc zr) (hc : pC_gang zc k r u) (hr : pR_gang zr k r' w9) : relB u w9 := relB_of (frBC_gang hc) (frBR_gang hr) h
theorem stB_parcel {zc u : CS} {zr w9 : RS2} {t : Int32} {tn : Int32} {gd : Int32} {r r' : Int32} (h : relB zc zr) (hc : pC_parcel zc t tn gd r u) (hr : pR_parcel zr t tn gd r' w9) : relB u w9 := relB_of (frBC_parcel hc) (frBR_parcel hr) h
theorem stB_pitch {zc u : CS} {zr w9 : RS2} {x : Int32} {y : Int32} {xx : Int32} {yy : Int32} {tn : Int32} {r r' : Int32} (h : relB zc zr) (hc : pC_pitch zc x y xx yy tn r u) (hr : pR_pitch zr x y xx yy tn r' w9) : relB u w9 := relB_of (frBC_pitch hc) (frBR_pitch hr) h
theorem stB_auction {zc u : CS} {zr w9 : RS2} {pp : Int32} {sv : Int32} {r r' : Int32} (h : relB zc zr) (hc : pC_auction zc pp sv r u) (hr : pR_auction zr pp sv r' w9) : relB u w9 := relB_of (frBC_auction hc) (frBR_auction hr) h
theorem stB_bid {zc u : CS} {zr w9 : RS2} {g : Int32} {sv : Int32} {r r' : Int32} (h : relB zc zr) (hc : pC_bid zc g sv r u) (hr : pR_bid zr g sv r' w9) : relB u w9 := relB_of (frBC_bid hc) (frBR_bid hr) h
theorem stB_strike {zc u : CS} {zr w9 : RS2} {r r' : Int32} (h : relB zc zr) (hc : pC_strike zc r u) (hr : pR_strike zr r' w9) : relB u w9 := relB_of (frBC_strike hc) (frBR_strike hr) h
theorem stB_foretold {zc u : CS} {zr w9 : RS2} {pp : Int32} {wh : Int32} {r r' : Int64} (h : relB zc zr) (hc : pC_foretold zc pp wh r u) (hr : pR_foretold zr pp wh r' w9) : relB u w9 := relB_of (frBC_foretold hc) (frBR_foretold hr) h
theorem stB_cell {zc u : CS} {zr w9 : RS2} {k : Int32} {ix : Int32} {ln : Int32} {r r' : Int64} (h : relB zc zr) (hc : pC_cell zc k ix ln r u) (hr : pR_cell zr k ix ln r' w9) : relB u w9 := relB_of (frBC_cell hc) (frBR_cell hr) h
theorem stB_find {zc u : CS} {zr w9 : RS2} {x : Int32} {y : Int32} {lo : Int32} {hi : Int32} {r r' : Int32} (h : relB zc zr) (hc : pC_find zc x y lo hi r u) (hr : pR_find zr x y lo hi r' w9) : relB u w9 := relB_of (frBC_find hc) (frBR_find hr) h
theorem stB_rise {zc u : CS} {zr w9 : RS2} {dd : Int32} {r r' : Int32} (h : relB zc zr) (hc : pC_rise zc dd r u) (hr : pR_rise zr dd r' w9) : relB u w9 := relB_of (frBC_rise hc) (frBR_rise hr) h
theorem stB_suspects {zc u : CS} {zr w9 : RS2} {r r' : Int32} (h : relB zc zr) (hc : pC_suspects zc r u) (hr : pR_suspects zr r' w9) : relB u w9 := relB_of (frBC_suspects hc) (frBR_suspects hr) h
theorem stB_suspect {zc u : CS} {zr w9 : RS2} {ix : Int32} {r r' : Int32} (h : relB zc zr) (hc : pC_suspect zc ix r u) (hr : pR_suspect zr ix r' w9) : relB u w9 := relB_of (frBC_suspect hc) (frBR_suspect hr) h
theorem stB_skill {zc u : CS} {zr w9 : RS2} {g : Int32} {wh : Int32} {r r' : Int64} (h : relB zc zr) (hc : pC_skill zc g wh r u) (hr : pR_skill zr g wh r' w9) : relB u w9 := relB_of (frBC_skill hc) (frBR_skill hr) h
theorem stB_chart {zc u : CS} {zr w9 : RS2} {k : Int32} {ln : Int32} {ix : Int32} {n : Int32} {sv : Int32} {r r' : Int32} (h : relB zc zr) (hc : pC_chart zc k ln ix n sv r u) (hr : pR_chart zr k ln ix n sv r' w9) : relB u w9 := relB_of (frBC_chart hc) (frBR_chart hr) h
