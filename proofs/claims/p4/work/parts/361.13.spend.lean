def pR_spend (zr : RS2) (t : Int32) (wh : Int32) (pn : Int32) (r : Int64) (u : RS2) : Prop :=
  ((∀ j, j < rs_n zr 2 → t ≠ nI j) ∧ r = ((-9223372036854775808)) ∧ u = zr) ∨
  (∃ jt : Nat, t = nI jt ∧ (jt < rs_n zr 2) ∧ (¬ (0 ≤ wh ∧ wh ≤ 1)) ∧ r = ((-9223372036854775808)) ∧ u = zr) ∨
  (∃ jt : Nat, t = nI jt ∧ (jt < rs_n zr 2) ∧ (0 ≤ wh ∧ wh ≤ 1) ∧ (¬ (0 ≤ pn ∧ pn ≤ 100000)) ∧ r = ((-9223372036854775808)) ∧ u = zr) ∨
  (∃ jt : Nat, t = nI jt ∧ (jt < rs_n zr 2) ∧ (0 ≤ wh ∧ wh ≤ 1) ∧ (0 ≤ pn ∧ pn ≤ 100000) ∧ (((rs_I zr 28) jt) = 0) ∧ (¬ wh = 0) ∧ (¬ wh = 1) ∧ (¬ wh = 0) ∧ r = ((vp_updL (rs_L zr 32) jt (((rs_L zr 32) jt) + 0)) jt) ∧ u = (rs_i zr, rs_n zr, rs_I zr, va_up (va_up (rs_L zr) 31 (vp_updL (rs_L zr 31) jt (((rs_L zr 31) jt) + 0))) 32 (vp_updL (rs_L zr 32) jt (((rs_L zr 32) jt) + 0)))) ∨
  (∃ jt : Nat, t = nI jt ∧ (jt < rs_n zr 2) ∧ (0 ≤ wh ∧ wh ≤ 1) ∧ (0 ≤ pn ∧ pn ≤ 100000) ∧ (((rs_I zr 28) jt) = 0) ∧ (¬ wh = 0) ∧ (¬ wh = 1) ∧ (wh = 0) ∧ r = ((vp_updL (rs_L zr 31) jt (((rs_L zr 31) jt) + 0)) jt) ∧ u = (rs_i zr, rs_n zr, rs_I zr, va_up (va_up (rs_L zr) 31 (vp_updL (rs_L zr 31) jt (((rs_L zr 31) jt) + 0))) 32 (vp_updL (rs_L zr 32) jt (((rs_L zr 32) jt) + 0)))) ∨
  (∃ jt : Nat, t = nI jt ∧ (jt < rs_n zr 2) ∧ (0 ≤ wh ∧ wh ≤ 1) ∧ (0 ≤ pn ∧ pn ≤ 100000) ∧ (((rs_I zr 28) jt) = 0) ∧ (¬ wh = 0) ∧ (wh = 1) ∧ (¬ wh = 0) ∧ r = ((vp_updL (rs_L zr 32) jt (((rs_L zr 32) jt) + pn.toInt64)) jt) ∧ u = (rs_i zr, rs_n zr, rs_I zr, va_up (va_up (rs_L zr) 31 (vp_updL (rs_L zr 31) jt (((rs_L zr 31) jt) + 0))) 32 (vp_updL (rs_L zr 32) jt (((rs_L zr 32) jt) + pn.toInt64)))) ∨
  (∃ jt : Nat, t = nI jt ∧ (jt < rs_n zr 2) ∧ (0 ≤ wh ∧ wh ≤ 1) ∧ (0 ≤ pn ∧ pn ≤ 100000) ∧ (((rs_I zr 28) jt) = 0) ∧ (¬ wh = 0) ∧ (wh = 1) ∧ (wh = 0) ∧ r = ((vp_updL (rs_L zr 31) jt (((rs_L zr 31) jt) + 0)) jt) ∧ u = (rs_i zr, rs_n zr, rs_I zr, va_up (va_up (rs_L zr) 31 (vp_updL (rs_L zr 31) jt (((rs_L zr 31) jt) + 0))) 32 (vp_updL (rs_L zr 32) jt (((rs_L zr 32) jt) + pn.toInt64)))) ∨
  (∃ jt : Nat, t = nI jt ∧ (jt < rs_n zr 2) ∧ (0 ≤ wh ∧ wh ≤ 1) ∧ (0 ≤ pn ∧ pn ≤ 100000) ∧ (((rs_I zr 28) jt) = 0) ∧ (wh = 0) ∧ (¬ wh = 1) ∧ (¬ wh = 0) ∧ r = ((vp_updL (rs_L zr 32) jt (((rs_L zr 32) jt) + 0)) jt) ∧ u = (rs_i zr, rs_n zr, rs_I zr, va_up (va_up (rs_L zr) 31 (vp_updL (rs_L zr 31) jt (((rs_L zr 31) jt) + pn.toInt64))) 32 (vp_updL (rs_L zr 32) jt (((rs_L zr 32) jt) + 0)))) ∨
  (∃ jt : Nat, t = nI jt ∧ (jt < rs_n zr 2) ∧ (0 ≤ wh ∧ wh ≤ 1) ∧ (0 ≤ pn ∧ pn ≤ 100000) ∧ (((rs_I zr 28) jt) = 0) ∧ (wh = 0) ∧ (¬ wh = 1) ∧ (wh = 0) ∧ r = ((vp_updL (rs_L zr 31) jt (((rs_L zr 31) jt) + pn.toInt64)) jt) ∧ u = (rs_i zr, rs_n zr, rs_I zr, va_up (va_up (rs_L zr) 31 (vp_updL (rs_L zr 31) jt (((rs_L zr 31) jt) + pn.toInt64))) 32 (vp_updL (rs_L zr 32) jt (((rs_L zr 32) jt) + 0)))) ∨
  (∃ jt : Nat, t = nI jt ∧ (jt < rs_n zr 2) ∧ (0 ≤ wh ∧ wh ≤ 1) ∧ (0 ≤ pn ∧ pn ≤ 100000) ∧ (((rs_I zr 28) jt) = 0) ∧ (wh = 0) ∧ (wh = 1) ∧ (¬ wh = 0) ∧ r = ((vp_updL (rs_L zr 32) jt (((rs_L zr 32) jt) + pn.toInt64)) jt) ∧ u = (rs_i zr, rs_n zr, rs_I zr, va_up (va_up (rs_L zr) 31 (vp_updL (rs_L zr 31) jt (((rs_L zr 31) jt) + pn.toInt64))) 32 (vp_updL (rs_L zr 32) jt (((rs_L zr 32) jt) + pn.toInt64)))) ∨
  (∃ jt : Nat, t = nI jt ∧ (jt < rs_n zr 2) ∧ (0 ≤ wh ∧ wh ≤ 1) ∧ (0 ≤ pn ∧ pn ≤ 100000) ∧ (((rs_I zr 28) jt) = 0) ∧ (wh = 0) ∧ (wh = 1) ∧ (wh = 0) ∧ r = ((vp_updL (rs_L zr 31) jt (((rs_L zr 31) jt) + pn.toInt64)) jt) ∧ u = (rs_i zr, rs_n zr, rs_I zr, va_up (va_up (rs_L zr) 31 (vp_updL (rs_L zr 31) jt (((rs_L zr 31) jt) + pn.toInt64))) 32 (vp_updL (rs_L zr 32) jt (((rs_L zr 32) jt) + pn.toInt64)))) ∨
  (∃ jt : Nat, t = nI jt ∧ (jt < rs_n zr 2) ∧ (0 ≤ wh ∧ wh ≤ 1) ∧ (0 ≤ pn ∧ pn ≤ 100000) ∧ (¬ ((rs_I zr 28) jt) = 0) ∧ r = ((-9223372036854775808)) ∧ u = zr)
set_option maxHeartbeats 4000000 in
theorem lr_spend_3 (qm : Nat) (cI cJ cZ : ClassId) (ad : Nat → Nat) (zr : RS2) (wh : Int32) (pn : Int32) (jt : Nat) (hjt : jt < rs_n zr 2) (c6 : 0 ≤ wh ∧ wh ≤ 1) (c9 : 0 ≤ pn ∧ pn ≤ 100000) (c12 : ((rs_I zr 28) jt) = 0) (c14 : ¬ wh = 0) (c16 : ¬ wh = 1) (c17 : ¬ wh = 0) (hI : invR zr) : invR (rs_i zr, rs_n zr, rs_I zr, va_up (va_up (rs_L zr) 31 (vp_updL (rs_L zr 31) jt (((rs_L zr 31) jt) + 0))) 32 (vp_updL (rs_L zr 32) jt (((rs_L zr 32) jt) + 0))) ∧ rW qm cI cJ cZ ad (rs_i zr, rs_n zr, rs_I zr, va_up (va_up (rs_L zr) 31 (vp_updL (rs_L zr 31) jt (((rs_L zr 31) jt) + 0))) 32 (vp_updL (rs_L zr 32) jt (((rs_L zr 32) jt) + 0))) = [rcO qm ad zr, rcI cI ad zr 2 48, rcI cI ad zr 3 48, rcI cI ad zr 4 48, rcI cI ad zr 5 48, rcI cI ad zr 7 4, rcI cI ad zr 8 4, rcI cI ad zr 9 192, rcI cI ad zr 10 48, rcI cI ad zr 12 12, rcI cI ad zr 13 12, rcI cI ad zr 14 12, rcI cI ad zr 15 12, rcI cI ad zr 16 12, rcI cI ad zr 18 8, rcJ cJ ad zr 19 8, rcI cI ad zr 25 40, rcI cI ad zr 26 40, rcI cI ad zr 27 40, rcI cZ ad zr 28 40, rcJ cJ ad zr 29 40, rcJ cJ ad zr 30 40, (ad 31, .inl (cJ, 40, .inr (.inl (vp_updL (rs_L zr 31) jt (((rs_L zr 31) jt) + 0))))), (ad 32, .inl (cJ, 40, .inr (.inl (vp_updL (rs_L zr 32) jt (((rs_L zr 32) jt) + 0))))), rcJ cJ ad zr 33 40, rcI cI ad zr 35 80, rcI cI ad zr 36 80, rcI cI ad zr 37 80] := by
  obtain ⟨⟨hn0, hn1, hn2, hn3⟩, hfar, hlh, hss, hsold, htk, hpk⟩ := id hI
  exact ⟨hI, by simp [rW, rcO, rcI, rcJ, rs_i, rs_n, rs_I, rs_L, va_up, upd]⟩
set_option maxHeartbeats 4000000 in
theorem lr_spend_4 (qm : Nat) (cI cJ cZ : ClassId) (ad : Nat → Nat) (zr : RS2) (wh : Int32) (pn : Int32) (jt : Nat) (hjt : jt < rs_n zr 2) (c6 : 0 ≤ wh ∧ wh ≤ 1) (c9 : 0 ≤ pn ∧ pn ≤ 100000) (c12 : ((rs_I zr 28) jt) = 0) (c14 : ¬ wh = 0) (c16 : ¬ wh = 1) (c17 : wh = 0) (hI : invR zr) : invR (rs_i zr, rs_n zr, rs_I zr, va_up (va_up (rs_L zr) 31 (vp_updL (rs_L zr 31) jt (((rs_L zr 31) jt) + 0))) 32 (vp_updL (rs_L zr 32) jt (((rs_L zr 32) jt) + 0))) ∧ rW qm cI cJ cZ ad (rs_i zr, rs_n zr, rs_I zr, va_up (va_up (rs_L zr) 31 (vp_updL (rs_L zr 31) jt (((rs_L zr 31) jt) + 0))) 32 (vp_updL (rs_L zr 32) jt (((rs_L zr 32) jt) + 0))) = [rcO qm ad zr, rcI cI ad zr 2 48, rcI cI ad zr 3 48, rcI cI ad zr 4 48, rcI cI ad zr 5 48, rcI cI ad zr 7 4, rcI cI ad zr 8 4, rcI cI ad zr 9 192, rcI cI ad zr 10 48, rcI cI ad zr 12 12, rcI cI ad zr 13 12, rcI cI ad zr 14 12, rcI cI ad zr 15 12, rcI cI ad zr 16 12, rcI cI ad zr 18 8, rcJ cJ ad zr 19 8, rcI cI ad zr 25 40, rcI cI ad zr 26 40, rcI cI ad zr 27 40, rcI cZ ad zr 28 40, rcJ cJ ad zr 29 40, rcJ cJ ad zr 30 40, (ad 31, .inl (cJ, 40, .inr (.inl (vp_updL (rs_L zr 31) jt (((rs_L zr 31) jt) + 0))))), (ad 32, .inl (cJ, 40, .inr (.inl (vp_updL (rs_L zr 32) jt (((rs_L zr 32) jt) + 0))))), rcJ cJ ad zr 33 40, rcI cI ad zr 35 80, rcI cI ad zr 36 80, rcI cI ad zr 37 80] := by
  obtain ⟨⟨hn0, hn1, hn2, hn3⟩, hfar, hlh, hss, hsold, htk, hpk⟩ := id hI
  exact ⟨hI, by simp [rW, rcO, rcI, rcJ, rs_i, rs_n, rs_I, rs_L, va_up, upd]⟩
set_option maxHeartbeats 4000000 in
theorem lr_spend_5 (qm : Nat) (cI cJ cZ : ClassId) (ad : Nat → Nat) (zr : RS2) (wh : Int32) (pn : Int32) (jt : Nat) (hjt : jt < rs_n zr 2) (c6 : 0 ≤ wh ∧ wh ≤ 1) (c9 : 0 ≤ pn ∧ pn ≤ 100000) (c12 : ((rs_I zr 28) jt) = 0) (c14 : ¬ wh = 0) (c16 : wh = 1) (c20 : ¬ wh = 0) (hI : invR zr) : invR (rs_i zr, rs_n zr, rs_I zr, va_up (va_up (rs_L zr) 31 (vp_updL (rs_L zr 31) jt (((rs_L zr 31) jt) + 0))) 32 (vp_updL (rs_L zr 32) jt (((rs_L zr 32) jt) + pn.toInt64))) ∧ rW qm cI cJ cZ ad (rs_i zr, rs_n zr, rs_I zr, va_up (va_up (rs_L zr) 31 (vp_updL (rs_L zr 31) jt (((rs_L zr 31) jt) + 0))) 32 (vp_updL (rs_L zr 32) jt (((rs_L zr 32) jt) + pn.toInt64))) = [rcO qm ad zr, rcI cI ad zr 2 48, rcI cI ad zr 3 48, rcI cI ad zr 4 48, rcI cI ad zr 5 48, rcI cI ad zr 7 4, rcI cI ad zr 8 4, rcI cI ad zr 9 192, rcI cI ad zr 10 48, rcI cI ad zr 12 12, rcI cI ad zr 13 12, rcI cI ad zr 14 12, rcI cI ad zr 15 12, rcI cI ad zr 16 12, rcI cI ad zr 18 8, rcJ cJ ad zr 19 8, rcI cI ad zr 25 40, rcI cI ad zr 26 40, rcI cI ad zr 27 40, rcI cZ ad zr 28 40, rcJ cJ ad zr 29 40, rcJ cJ ad zr 30 40, (ad 31, .inl (cJ, 40, .inr (.inl (vp_updL (rs_L zr 31) jt (((rs_L zr 31) jt) + 0))))), (ad 32, .inl (cJ, 40, .inr (.inl (vp_updL (rs_L zr 32) jt (((rs_L zr 32) jt) + pn.toInt64))))), rcJ cJ ad zr 33 40, rcI cI ad zr 35 80, rcI cI ad zr 36 80, rcI cI ad zr 37 80] := by
  obtain ⟨⟨hn0, hn1, hn2, hn3⟩, hfar, hlh, hss, hsold, htk, hpk⟩ := id hI
  exact ⟨hI, by simp [rW, rcO, rcI, rcJ, rs_i, rs_n, rs_I, rs_L, va_up, upd]⟩
set_option maxHeartbeats 4000000 in
theorem lr_spend_6 (qm : Nat) (cI cJ cZ : ClassId) (ad : Nat → Nat) (zr : RS2) (wh : Int32) (pn : Int32) (jt : Nat) (hjt : jt < rs_n zr 2) (c6 : 0 ≤ wh ∧ wh ≤ 1) (c9 : 0 ≤ pn ∧ pn ≤ 100000) (c12 : ((rs_I zr 28) jt) = 0) (c14 : ¬ wh = 0) (c16 : wh = 1) (c20 : wh = 0) (hI : invR zr) : invR (rs_i zr, rs_n zr, rs_I zr, va_up (va_up (rs_L zr) 31 (vp_updL (rs_L zr 31) jt (((rs_L zr 31) jt) + 0))) 32 (vp_updL (rs_L zr 32) jt (((rs_L zr 32) jt) + pn.toInt64))) ∧ rW qm cI cJ cZ ad (rs_i zr, rs_n zr, rs_I zr, va_up (va_up (rs_L zr) 31 (vp_updL (rs_L zr 31) jt (((rs_L zr 31) jt) + 0))) 32 (vp_updL (rs_L zr 32) jt (((rs_L zr 32) jt) + pn.toInt64))) = [rcO qm ad zr, rcI cI ad zr 2 48, rcI cI ad zr 3 48, rcI cI ad zr 4 48, rcI cI ad zr 5 48, rcI cI ad zr 7 4, rcI cI ad zr 8 4, rcI cI ad zr 9 192, rcI cI ad zr 10 48, rcI cI ad zr 12 12, rcI cI ad zr 13 12, rcI cI ad zr 14 12, rcI cI ad zr 15 12, rcI cI ad zr 16 12, rcI cI ad zr 18 8, rcJ cJ ad zr 19 8, rcI cI ad zr 25 40, rcI cI ad zr 26 40, rcI cI ad zr 27 40, rcI cZ ad zr 28 40, rcJ cJ ad zr 29 40, rcJ cJ ad zr 30 40, (ad 31, .inl (cJ, 40, .inr (.inl (vp_updL (rs_L zr 31) jt (((rs_L zr 31) jt) + 0))))), (ad 32, .inl (cJ, 40, .inr (.inl (vp_updL (rs_L zr 32) jt (((rs_L zr 32) jt) + pn.toInt64))))), rcJ cJ ad zr 33 40, rcI cI ad zr 35 80, rcI cI ad zr 36 80, rcI cI ad zr 37 80] := by
  obtain ⟨⟨hn0, hn1, hn2, hn3⟩, hfar, hlh, hss, hsold, htk, hpk⟩ := id hI
  exact ⟨hI, by simp [rW, rcO, rcI, rcJ, rs_i, rs_n, rs_I, rs_L, va_up, upd]⟩
set_option maxHeartbeats 4000000 in
theorem lr_spend_7 (qm : Nat) (cI cJ cZ : ClassId) (ad : Nat → Nat) (zr : RS2) (wh : Int32) (pn : Int32) (jt : Nat) (hjt : jt < rs_n zr 2) (c6 : 0 ≤ wh ∧ wh ≤ 1) (c9 : 0 ≤ pn ∧ pn ≤ 100000) (c12 : ((rs_I zr 28) jt) = 0) (c14 : wh = 0) (c24 : ¬ wh = 1) (c25 : ¬ wh = 0) (hI : invR zr) : invR (rs_i zr, rs_n zr, rs_I zr, va_up (va_up (rs_L zr) 31 (vp_updL (rs_L zr 31) jt (((rs_L zr 31) jt) + pn.toInt64))) 32 (vp_updL (rs_L zr 32) jt (((rs_L zr 32) jt) + 0))) ∧ rW qm cI cJ cZ ad (rs_i zr, rs_n zr, rs_I zr, va_up (va_up (rs_L zr) 31 (vp_updL (rs_L zr 31) jt (((rs_L zr 31) jt) + pn.toInt64))) 32 (vp_updL (rs_L zr 32) jt (((rs_L zr 32) jt) + 0))) = [rcO qm ad zr, rcI cI ad zr 2 48, rcI cI ad zr 3 48, rcI cI ad zr 4 48, rcI cI ad zr 5 48, rcI cI ad zr 7 4, rcI cI ad zr 8 4, rcI cI ad zr 9 192, rcI cI ad zr 10 48, rcI cI ad zr 12 12, rcI cI ad zr 13 12, rcI cI ad zr 14 12, rcI cI ad zr 15 12, rcI cI ad zr 16 12, rcI cI ad zr 18 8, rcJ cJ ad zr 19 8, rcI cI ad zr 25 40, rcI cI ad zr 26 40, rcI cI ad zr 27 40, rcI cZ ad zr 28 40, rcJ cJ ad zr 29 40, rcJ cJ ad zr 30 40, (ad 31, .inl (cJ, 40, .inr (.inl (vp_updL (rs_L zr 31) jt (((rs_L zr 31) jt) + pn.toInt64))))), (ad 32, .inl (cJ, 40, .inr (.inl (vp_updL (rs_L zr 32) jt (((rs_L zr 32) jt) + 0))))), rcJ cJ ad zr 33 40, rcI cI ad zr 35 80, rcI cI ad zr 36 80, rcI cI ad zr 37 80] := by
  obtain ⟨⟨hn0, hn1, hn2, hn3⟩, hfar, hlh, hss, hsold, htk, hpk⟩ := id hI
  exact ⟨hI, by simp [rW, rcO, rcI, rcJ, rs_i, rs_n, rs_I, rs_L, va_up, upd]⟩
set_option maxHeartbeats 4000000 in
theorem lr_spend_8 (qm : Nat) (cI cJ cZ : ClassId) (ad : Nat → Nat) (zr : RS2) (wh : Int32) (pn : Int32) (jt : Nat) (hjt : jt < rs_n zr 2) (c6 : 0 ≤ wh ∧ wh ≤ 1) (c9 : 0 ≤ pn ∧ pn ≤ 100000) (c12 : ((rs_I zr 28) jt) = 0) (c14 : wh = 0) (c24 : ¬ wh = 1) (c25 : wh = 0) (hI : invR zr) : invR (rs_i zr, rs_n zr, rs_I zr, va_up (va_up (rs_L zr) 31 (vp_updL (rs_L zr 31) jt (((rs_L zr 31) jt) + pn.toInt64))) 32 (vp_updL (rs_L zr 32) jt (((rs_L zr 32) jt) + 0))) ∧ rW qm cI cJ cZ ad (rs_i zr, rs_n zr, rs_I zr, va_up (va_up (rs_L zr) 31 (vp_updL (rs_L zr 31) jt (((rs_L zr 31) jt) + pn.toInt64))) 32 (vp_updL (rs_L zr 32) jt (((rs_L zr 32) jt) + 0))) = [rcO qm ad zr, rcI cI ad zr 2 48, rcI cI ad zr 3 48, rcI cI ad zr 4 48, rcI cI ad zr 5 48, rcI cI ad zr 7 4, rcI cI ad zr 8 4, rcI cI ad zr 9 192, rcI cI ad zr 10 48, rcI cI ad zr 12 12, rcI cI ad zr 13 12, rcI cI ad zr 14 12, rcI cI ad zr 15 12, rcI cI ad zr 16 12, rcI cI ad zr 18 8, rcJ cJ ad zr 19 8, rcI cI ad zr 25 40, rcI cI ad zr 26 40, rcI cI ad zr 27 40, rcI cZ ad zr 28 40, rcJ cJ ad zr 29 40, rcJ cJ ad zr 30 40, (ad 31, .inl (cJ, 40, .inr (.inl (vp_updL (rs_L zr 31) jt (((rs_L zr 31) jt) + pn.toInt64))))), (ad 32, .inl (cJ, 40, .inr (.inl (vp_updL (rs_L zr 32) jt (((rs_L zr 32) jt) + 0))))), rcJ cJ ad zr 33 40, rcI cI ad zr 35 80, rcI cI ad zr 36 80, rcI cI ad zr 37 80] := by
  obtain ⟨⟨hn0, hn1, hn2, hn3⟩, hfar, hlh, hss, hsold, htk, hpk⟩ := id hI
  exact ⟨hI, by simp [rW, rcO, rcI, rcJ, rs_i, rs_n, rs_I, rs_L, va_up, upd]⟩
set_option maxHeartbeats 4000000 in
theorem lr_spend_9 (qm : Nat) (cI cJ cZ : ClassId) (ad : Nat → Nat) (zr : RS2) (wh : Int32) (pn : Int32) (jt : Nat) (hjt : jt < rs_n zr 2) (c6 : 0 ≤ wh ∧ wh ≤ 1) (c9 : 0 ≤ pn ∧ pn ≤ 100000) (c12 : ((rs_I zr 28) jt) = 0) (c14 : wh = 0) (c24 : wh = 1) (c28 : ¬ wh = 0) (hI : invR zr) : invR (rs_i zr, rs_n zr, rs_I zr, va_up (va_up (rs_L zr) 31 (vp_updL (rs_L zr 31) jt (((rs_L zr 31) jt) + pn.toInt64))) 32 (vp_updL (rs_L zr 32) jt (((rs_L zr 32) jt) + pn.toInt64))) ∧ rW qm cI cJ cZ ad (rs_i zr, rs_n zr, rs_I zr, va_up (va_up (rs_L zr) 31 (vp_updL (rs_L zr 31) jt (((rs_L zr 31) jt) + pn.toInt64))) 32 (vp_updL (rs_L zr 32) jt (((rs_L zr 32) jt) + pn.toInt64))) = [rcO qm ad zr, rcI cI ad zr 2 48, rcI cI ad zr 3 48, rcI cI ad zr 4 48, rcI cI ad zr 5 48, rcI cI ad zr 7 4, rcI cI ad zr 8 4, rcI cI ad zr 9 192, rcI cI ad zr 10 48, rcI cI ad zr 12 12, rcI cI ad zr 13 12, rcI cI ad zr 14 12, rcI cI ad zr 15 12, rcI cI ad zr 16 12, rcI cI ad zr 18 8, rcJ cJ ad zr 19 8, rcI cI ad zr 25 40, rcI cI ad zr 26 40, rcI cI ad zr 27 40, rcI cZ ad zr 28 40, rcJ cJ ad zr 29 40, rcJ cJ ad zr 30 40, (ad 31, .inl (cJ, 40, .inr (.inl (vp_updL (rs_L zr 31) jt (((rs_L zr 31) jt) + pn.toInt64))))), (ad 32, .inl (cJ, 40, .inr (.inl (vp_updL (rs_L zr 32) jt (((rs_L zr 32) jt) + pn.toInt64))))), rcJ cJ ad zr 33 40, rcI cI ad zr 35 80, rcI cI ad zr 36 80, rcI cI ad zr 37 80] := by
  obtain ⟨⟨hn0, hn1, hn2, hn3⟩, hfar, hlh, hss, hsold, htk, hpk⟩ := id hI
  exact ⟨hI, by simp [rW, rcO, rcI, rcJ, rs_i, rs_n, rs_I, rs_L, va_up, upd]⟩
set_option maxHeartbeats 4000000 in
theorem lr_spend_10 (qm : Nat) (cI cJ cZ : ClassId) (ad : Nat → Nat) (zr : RS2) (wh : Int32) (pn : Int32) (jt : Nat) (hjt : jt < rs_n zr 2) (c6 : 0 ≤ wh ∧ wh ≤ 1) (c9 : 0 ≤ pn ∧ pn ≤ 100000) (c12 : ((rs_I zr 28) jt) = 0) (c14 : wh = 0) (c24 : wh = 1) (c28 : wh = 0) (hI : invR zr) : invR (rs_i zr, rs_n zr, rs_I zr, va_up (va_up (rs_L zr) 31 (vp_updL (rs_L zr 31) jt (((rs_L zr 31) jt) + pn.toInt64))) 32 (vp_updL (rs_L zr 32) jt (((rs_L zr 32) jt) + pn.toInt64))) ∧ rW qm cI cJ cZ ad (rs_i zr, rs_n zr, rs_I zr, va_up (va_up (rs_L zr) 31 (vp_updL (rs_L zr 31) jt (((rs_L zr 31) jt) + pn.toInt64))) 32 (vp_updL (rs_L zr 32) jt (((rs_L zr 32) jt) + pn.toInt64))) = [rcO qm ad zr, rcI cI ad zr 2 48, rcI cI ad zr 3 48, rcI cI ad zr 4 48, rcI cI ad zr 5 48, rcI cI ad zr 7 4, rcI cI ad zr 8 4, rcI cI ad zr 9 192, rcI cI ad zr 10 48, rcI cI ad zr 12 12, rcI cI ad zr 13 12, rcI cI ad zr 14 12, rcI cI ad zr 15 12, rcI cI ad zr 16 12, rcI cI ad zr 18 8, rcJ cJ ad zr 19 8, rcI cI ad zr 25 40, rcI cI ad zr 26 40, rcI cI ad zr 27 40, rcI cZ ad zr 28 40, rcJ cJ ad zr 29 40, rcJ cJ ad zr 30 40, (ad 31, .inl (cJ, 40, .inr (.inl (vp_updL (rs_L zr 31) jt (((rs_L zr 31) jt) + pn.toInt64))))), (ad 32, .inl (cJ, 40, .inr (.inl (vp_updL (rs_L zr 32) jt (((rs_L zr 32) jt) + pn.toInt64))))), rcJ cJ ad zr 33 40, rcI cI ad zr 35 80, rcI cI ad zr 36 80, rcI cI ad zr 37 80] := by
  obtain ⟨⟨hn0, hn1, hn2, hn3⟩, hfar, hlh, hss, hsold, htk, hpk⟩ := id hI
  exact ⟨hI, by simp [rW, rcO, rcI, rcJ, rs_i, rs_n, rs_I, rs_L, va_up, upd]⟩
set_option maxHeartbeats 4000000 in
set_option maxRecDepth 100000 in
theorem M_spend (l : Launch) (dC : Nat → ClassId) (dI : Nat → Nat → Nat) (cI cJ cZ : ClassId) (sz : Nat) (qm : Nat) (ad : Nat → Nat) (zr : RS2) (t : Int32) (wh : Int32) (pn : Int32) (hI : invR zr) : Met l yX11_spend wsX11_spend ({ frames := 3, cells := 0, slots := 0, locals := 90 }) (pw (dC, dI) [(cI, .int), (cJ, .long), (cZ, .boolean)] (rW qm cI cJ cZ ad zr) sz [.ref qm, .int t, .int wh, .int pn]) (va_Ql (fun r (u : RS2) => invR u ∧ pR_spend zr t wh pn r u) (fun u t => bw (dC, dI) [(cI, .int), (cJ, .long), (cZ, .boolean)] (va_A (rW qm cI cJ cZ ad zr) sz) (rW qm cI cJ cZ ad u) t) (va_A (rW qm cI cJ cZ ad zr) sz)) 0 0 (va_A (rW qm cI cJ cZ ad zr) sz) := by
  refine pw_met (cc := cX11_spend) (maxL := 4) (ret := (some .long)) (by decide) rfl (Nat.le_of_ble_eq_true rfl) ?_
  intro p e s m below meth c0 hx hb hr hml hown hlocks hnm hts hP0 hK hD0 hN hsz hA hS ls hl
  subst hsz
  have hP : va_P (dC, dI) vwCl [rcO qm ad zr, rcI cI ad zr 2 48, rcI cI ad zr 3 48, rcI cI ad zr 4 48, rcI cI ad zr 5 48, rcI cI ad zr 7 4, rcI cI ad zr 8 4, rcI cI ad zr 9 192, rcI cI ad zr 10 48, rcI cI ad zr 12 12, rcI cI ad zr 13 12, rcI cI ad zr 14 12, rcI cI ad zr 15 12, rcI cI ad zr 16 12, rcI cI ad zr 18 8, rcJ cJ ad zr 19 8, rcI cI ad zr 25 40, rcI cI ad zr 26 40, rcI cI ad zr 27 40, rcI cZ ad zr 28 40, rcJ cJ ad zr 29 40, rcJ cJ ad zr 30 40, rcJ cJ ad zr 31 40, rcJ cJ ad zr 32 40, rcJ cJ ad zr 33 40, rcI cI ad zr 35 80, rcI cI ad zr 36 80, rcI cI ad zr 37 80] s.heap := hP0
  have hD : va_D (va_A (rW qm cI cJ cZ ad zr) s.heap.size) [rcO qm ad zr, rcI cI ad zr 2 48, rcI cI ad zr 3 48, rcI cI ad zr 4 48, rcI cI ad zr 5 48, rcI cI ad zr 7 4, rcI cI ad zr 8 4, rcI cI ad zr 9 192, rcI cI ad zr 10 48, rcI cI ad zr 12 12, rcI cI ad zr 13 12, rcI cI ad zr 14 12, rcI cI ad zr 15 12, rcI cI ad zr 16 12, rcI cI ad zr 18 8, rcJ cJ ad zr 19 8, rcI cI ad zr 25 40, rcI cI ad zr 26 40, rcI cI ad zr 27 40, rcI cZ ad zr 28 40, rcJ cJ ad zr 29 40, rcJ cJ ad zr 30 40, rcJ cJ ad zr 31 40, rcJ cJ ad zr 32 40, rcJ cJ ad zr 33 40, rcI cI ad zr 35 80, rcI cI ad zr 36 80, rcI cI ad zr 37 80] := hD0
  obtain ⟨⟨hn0, hn1, hn2, hn3⟩, hfar, hlh, hss, hsold, htk, hpk⟩ := id hI
  have hl : lv_has ls 4 [(0, .ref qm), (1, .int t), (2, .int wh), (3, .int pn)] := hl
  have hiX11 : ∀ w ∈ wsX110, w ∈ wsX11_spend := by decide +kernel
  generalize hQ : MQ _ _ _ _ _ _ _ = Q
  refine lv_aload_n hx hb dX11_spend_0 rfl (lv_at hl 0 rfl) ?_
  refine lv_iload_n hx hb dX11_spend_1 rfl (lv_at hl 1 rfl) ?_
  have hPc := hP.sub (ws' := [rcO qm ad zr]) [0] rfl
  have hDc := hD.sub (ws' := [rcO qm ad zr]) [0] (by decide) rfl
  have hKc := hK.sub (tys' := []) [] rfl
  refine vp_callSi (va_Run.run (va_runV (As := [.int t]) (rest := []) ⟨hx, hb, hml, hown, hts⟩ (r_X11_noTake l dC dI  _ qm (.int (rs_i zr 0)) (.int (rs_i zr 1)) (.ref (ad 2)) (.ref (ad 3)) (.ref (ad 4)) (.ref (ad 5)) (.int (rs_i zr 6)) (.ref (ad 7)) (.ref (ad 8)) (.ref (ad 9)) (.ref (ad 10)) (.int (nI (rs_n zr 0))) (.ref (ad 12)) (.ref (ad 13)) (.ref (ad 14)) (.ref (ad 15)) (.ref (ad 16)) (.int (nI (rs_n zr 1))) (.ref (ad 18)) (.ref (ad 19)) (.int (rs_i zr 20)) (.int (rs_i zr 21)) (.int (rs_i zr 22)) (.int (rs_i zr 23)) (.ref (ad 25)) (.ref (ad 26)) (.ref (ad 27)) (.ref (ad 28)) (.ref (ad 29)) (.ref (ad 30)) (.ref (ad 31)) (.ref (ad 32)) (.ref (ad 33)) (.int (nI (rs_n zr 3))) (.ref (ad 35)) (.ref (ad 36)) (.ref (ad 37)) (.int (rs_i zr 38)) (nI (rs_n zr 2)) t (rs_n zr 2) rfl (by omega)) (cwV 1 hts gX11_spend_X11_noTake rfl rfl rfl (by decide +kernel) ⟨Nat.le_of_ble_eq_true rfl, Nat.le_of_ble_eq_true rfl⟩) (pw_preV (va_recv hKc hPc (ci := 11) (q0 := 0) rfl rfl) hPc hKc hDc hN) rfl rfl hl.1 rfl (lv_room (Nat.le_of_ble_eq_true rfl)) dX11_spend_2 ⟨Nat.le_of_ble_eq_true rfl, Nat.le_of_ble_eq_true rfl⟩)) (fun r1 hr1 => ?_)
  have hr1 : (r1 = 1 ∧ ∀ j, j < (rs_n zr 2) → t ≠ nI j) ∨ (r1 = 0 ∧ ∃ j, j < (rs_n zr 2) ∧ t = nI j) := hr1
  rcases hr1 with ⟨er1, hnojt⟩ | ⟨er1, jt, hjt, egjt⟩
  · subst er1
    refine lv_if_ne (tgt := 39) hx hb dX11_spend_5 (by decide) (fun c2 => ?_) (fun c2 => ?_)
    · skip
      refine vp_callSl (va_Run.run (va_runS (As := []) (rest := []) ⟨hx, hb, hml, hown, hts⟩ (c_X11_lost l  ) (va_cwS 0 hts gX11_spend_X11_lost rfl rfl rfl (by decide +kernel) ⟨Nat.le_of_ble_eq_true rfl, Nat.le_of_ble_eq_true rfl⟩) (p0_preS hN) rfl rfl hl.1 rfl (lv_room (Nat.le_of_ble_eq_true rfl)) dX11_spend_39 ⟨Nat.le_of_ble_eq_true rfl, Nat.le_of_ble_eq_true rfl⟩)) (fun r3 hr3 => ?_)
      have hr3 : r3 = (-9223372036854775808) := hr3
      subst hr3
      subst hQ
      exact W.lret (v := (-9223372036854775808)) hx hb hr (fun t ht hW => ⟨⟨(-9223372036854775808), zr, rfl, ⟨hI, (Or.inl ⟨hnojt, rfl, rfl⟩)⟩, (by rw [ht]; exact hP0), va_K.moved hW.alike hK, hD0⟩, (by rw [ht]; exact Nat.le_refl _), fun q _ _ => by rw [ht]⟩) (fun q h => absurd h List.not_mem_nil) dX11_spend_42
    · exact absurd c2 (by decide)
  · subst er1
    subst egjt
    refine lv_if_ne (tgt := 39) hx hb dX11_spend_5 (by decide) (fun c4 => ?_) (fun c4 => ?_)
    · exact absurd c4 (by decide)
    · skip
      refine lv_iload_n hx hb dX11_spend_8 rfl (lv_at hl 2 rfl) ?_
      refine lv_i2l (v := wh.toInt64) hx hb dX11_spend_9 rfl ?_
      refine lv_lconst (v := 0) hx hb dX11_spend_10 (by decide) ?_
      refine lv_lconst (v := 1) hx hb dX11_spend_11 (by decide) ?_
      refine vp_callSi (va_Run.run (va_runS (As := [.long wh.toInt64, .long 0, .long 1]) (rest := []) ⟨hx, hb, hml, hown, hts⟩ (c_X11_in l wh.toInt64 0 1 ) (va_cwS 3 hts gX11_spend_X11_in rfl rfl rfl (by decide +kernel) ⟨Nat.le_of_ble_eq_true rfl, Nat.le_of_ble_eq_true rfl⟩) (p0_preS hN) rfl rfl hl.1 rfl (lv_room (Nat.le_of_ble_eq_true rfl)) dX11_spend_12 ⟨Nat.le_of_ble_eq_true rfl, Nat.le_of_ble_eq_true rfl⟩)) (fun r5 hr5 => ?_)
      have hr5 : r5 = if 0 ≤ wh.toInt64 ∧ wh.toInt64 ≤ 1 then 1 else 0 := hr5
      have hr5 := hr5.trans (in_w _ 0 1 (by decide) (by decide))
      refine lv_if_eq (tgt := 39) hx hb dX11_spend_15 (by decide) (fun c6 => ?_) (fun c6 => ?_)
      · skip
        have c6 := (fa_bool_prop hr5).1.mp c6
        refine vp_callSl (va_Run.run (va_runS (As := []) (rest := []) ⟨hx, hb, hml, hown, hts⟩ (c_X11_lost l  ) (va_cwS 0 hts gX11_spend_X11_lost rfl rfl rfl (by decide +kernel) ⟨Nat.le_of_ble_eq_true rfl, Nat.le_of_ble_eq_true rfl⟩) (p0_preS hN) rfl rfl hl.1 rfl (lv_room (Nat.le_of_ble_eq_true rfl)) dX11_spend_39 ⟨Nat.le_of_ble_eq_true rfl, Nat.le_of_ble_eq_true rfl⟩)) (fun r7 hr7 => ?_)
        have hr7 : r7 = (-9223372036854775808) := hr7
        subst hr7
        subst hQ
        exact W.lret (v := (-9223372036854775808)) hx hb hr (fun t ht hW => ⟨⟨(-9223372036854775808), zr, rfl, ⟨hI, (Or.inr (Or.inl ⟨jt, rfl, hjt, c6, rfl, rfl⟩))⟩, (by rw [ht]; exact hP0), va_K.moved hW.alike hK, hD0⟩, (by rw [ht]; exact Nat.le_refl _), fun q _ _ => by rw [ht]⟩) (fun q h => absurd h List.not_mem_nil) dX11_spend_42
      · skip
        have c6 := (fa_bool_prop hr5).2.mp c6
        refine lv_iload_n hx hb dX11_spend_18 rfl (lv_at hl 3 rfl) ?_
        refine lv_i2l (v := pn.toInt64) hx hb dX11_spend_19 rfl ?_
        refine lv_lconst (v := 0) hx hb dX11_spend_20 (by decide) ?_
        refine lv_ldc2 (v := 100000) hx hb hown (hts (.constantLong RX11 220 (100000)) (by decide +kernel)) dX11_spend_21 ?_
        refine vp_callSi (va_Run.run (va_runS (As := [.long pn.toInt64, .long 0, .long 100000]) (rest := []) ⟨hx, hb, hml, hown, hts⟩ (c_X11_in l pn.toInt64 0 100000 ) (va_cwS 3 hts gX11_spend_X11_in rfl rfl rfl (by decide +kernel) ⟨Nat.le_of_ble_eq_true rfl, Nat.le_of_ble_eq_true rfl⟩) (p0_preS hN) rfl rfl hl.1 rfl (lv_room (Nat.le_of_ble_eq_true rfl)) dX11_spend_24 ⟨Nat.le_of_ble_eq_true rfl, Nat.le_of_ble_eq_true rfl⟩)) (fun r8 hr8 => ?_)
        have hr8 : r8 = if 0 ≤ pn.toInt64 ∧ pn.toInt64 ≤ 100000 then 1 else 0 := hr8
        have hr8 := hr8.trans (in_w _ 0 100000 (by decide) (by decide))
        refine lv_if_eq (tgt := 39) hx hb dX11_spend_27 (by decide) (fun c9 => ?_) (fun c9 => ?_)
        · skip
          have c9 := (fa_bool_prop hr8).1.mp c9
          refine vp_callSl (va_Run.run (va_runS (As := []) (rest := []) ⟨hx, hb, hml, hown, hts⟩ (c_X11_lost l  ) (va_cwS 0 hts gX11_spend_X11_lost rfl rfl rfl (by decide +kernel) ⟨Nat.le_of_ble_eq_true rfl, Nat.le_of_ble_eq_true rfl⟩) (p0_preS hN) rfl rfl hl.1 rfl (lv_room (Nat.le_of_ble_eq_true rfl)) dX11_spend_39 ⟨Nat.le_of_ble_eq_true rfl, Nat.le_of_ble_eq_true rfl⟩)) (fun r10 hr10 => ?_)
          have hr10 : r10 = (-9223372036854775808) := hr10
          subst hr10
          subst hQ
          exact W.lret (v := (-9223372036854775808)) hx hb hr (fun t ht hW => ⟨⟨(-9223372036854775808), zr, rfl, ⟨hI, (Or.inr (Or.inr (Or.inl ⟨jt, rfl, hjt, c6, c9, rfl, rfl⟩)))⟩, (by rw [ht]; exact hP0), va_K.moved hW.alike hK, hD0⟩, (by rw [ht]; exact Nat.le_refl _), fun q _ _ => by rw [ht]⟩) (fun q h => absurd h List.not_mem_nil) dX11_spend_42
        · skip
          have c9 := (fa_bool_prop hr8).2.mp c9
          refine lv_aload_n hx hb dX11_spend_30 rfl (lv_at hl 0 rfl) ?_
          refine va_get (D := (dC, dI)) (ci := 11) (v := .ref (ad 28)) (C := RX11) (T := TX11) (N := 39) hx hb hts hiX11 hown hK hP 0 rfl rfl 28 (by decide) (hts (.fieldLink RX11 65 "TributePitchesModel" "isSettled" "[Z") (by decide +kernel)) (fun _ h9 => h9) rfl dX11_spend_31 ?_
          refine lv_iload_n hx hb dX11_spend_34 rfl (lv_at hl 1 rfl) ?_
          refine va_zald hx hb hK hP 19 2 rfl rfl (vp_in_nI (by omega) (by omega)) dX11_spend_35 ?_
          refine lv_topi (fun v11 ev11 => ?_)
          have ev11 : v11 = (rs_I zr 28) jt := by rw [ev11]; rw [nI_clamp (by omega)]
          subst ev11
          refine lv_if_eq (tgt := 43) hx hb dX11_spend_36 (by decide) (fun c12 => ?_) (fun c12 => ?_)
          · skip
            refine lv_aload_n hx hb dX11_spend_43 rfl (lv_at hl 0 rfl) ?_
            refine va_get (D := (dC, dI)) (ci := 11) (v := .ref (ad 31)) (C := RX11) (T := TX11) (N := 39) hx hb hts hiX11 hown hK hP 0 rfl rfl 31 (by decide) (hts (.fieldLink RX11 75 "TributePitchesModel" "costs" "[J") (by decide +kernel)) (fun _ h9 => h9) rfl dX11_spend_44 ?_
            refine lv_iload_n hx hb dX11_spend_47 rfl (lv_at hl 1 rfl) ?_
            refine lv_dup2_11 hx hb dX11_spend_48 rfl rfl ?_
            refine va_lald hx hb hK hP 22 1 rfl rfl (vp_in_nI (by omega) (by omega)) dX11_spend_49 ?_
            refine lv_topl (fun v13 ev13 => ?_)
            have ev13 : v13 = (rs_L zr 31) jt := by rw [ev13]; rw [nI_clamp (by omega)]
            subst ev13
            refine lv_iload_n hx hb dX11_spend_50 rfl (lv_at hl 2 rfl) ?_
            refine lv_if_ne (tgt := 59) hx hb dX11_spend_51 (by decide) (fun c14 => ?_) (fun c14 => ?_)
            · skip
              refine lv_lconst (v := 0) hx hb dX11_spend_59 (by decide) ?_
              refine lv_ladd hx hb dX11_spend_60 ?_
              refine va_last hx hb hK hP hD hS 22 1 rfl rfl (vp_in_nI (by omega) (by omega)) dX11_spend_61 (fun H locs hP hD hS => ?_)
              rw [nI_clamp (n := jt) (by omega)] at hP hD
              have hP : va_P (dC, dI) vwCl [rcO qm ad zr, rcI cI ad zr 2 48, rcI cI ad zr 3 48, rcI cI ad zr 4 48, rcI cI ad zr 5 48, rcI cI ad zr 7 4, rcI cI ad zr 8 4, rcI cI ad zr 9 192, rcI cI ad zr 10 48, rcI cI ad zr 12 12, rcI cI ad zr 13 12, rcI cI ad zr 14 12, rcI cI ad zr 15 12, rcI cI ad zr 16 12, rcI cI ad zr 18 8, rcJ cJ ad zr 19 8, rcI cI ad zr 25 40, rcI cI ad zr 26 40, rcI cI ad zr 27 40, rcI cZ ad zr 28 40, rcJ cJ ad zr 29 40, rcJ cJ ad zr 30 40, (ad 31, .inl (cJ, 40, .inr (.inl (vp_updL (rs_L zr 31) jt (((rs_L zr 31) jt) + 0))))), rcJ cJ ad zr 32 40, rcJ cJ ad zr 33 40, rcI cI ad zr 35 80, rcI cI ad zr 36 80, rcI cI ad zr 37 80] H := hP
              have hD : va_D _ [rcO qm ad zr, rcI cI ad zr 2 48, rcI cI ad zr 3 48, rcI cI ad zr 4 48, rcI cI ad zr 5 48, rcI cI ad zr 7 4, rcI cI ad zr 8 4, rcI cI ad zr 9 192, rcI cI ad zr 10 48, rcI cI ad zr 12 12, rcI cI ad zr 13 12, rcI cI ad zr 14 12, rcI cI ad zr 15 12, rcI cI ad zr 16 12, rcI cI ad zr 18 8, rcJ cJ ad zr 19 8, rcI cI ad zr 25 40, rcI cI ad zr 26 40, rcI cI ad zr 27 40, rcI cZ ad zr 28 40, rcJ cJ ad zr 29 40, rcJ cJ ad zr 30 40, (ad 31, .inl (cJ, 40, .inr (.inl (vp_updL (rs_L zr 31) jt (((rs_L zr 31) jt) + 0))))), rcJ cJ ad zr 32 40, rcJ cJ ad zr 33 40, rcI cI ad zr 35 80, rcI cI ad zr 36 80, rcI cI ad zr 37 80] := hD
              refine lv_aload_n hx hb dX11_spend_62 rfl (lv_at hl 0 rfl) ?_
              refine va_get (D := (dC, dI)) (ci := 11) (v := .ref (ad 32)) (C := RX11) (T := TX11) (N := 39) hx hb hts hiX11 hown hK hP 0 rfl rfl 32 (by decide) (hts (.fieldLink RX11 78 "TributePitchesModel" "ahead" "[J") (by decide +kernel)) (fun _ h9 => h9) rfl dX11_spend_63 ?_
              refine lv_iload_n hx hb dX11_spend_66 rfl (lv_at hl 1 rfl) ?_
              refine lv_dup2_11 hx hb dX11_spend_67 rfl rfl ?_
              refine va_lald hx hb hK hP 23 1 rfl rfl (vp_in_nI (by omega) (by omega)) dX11_spend_68 ?_
              refine lv_topl (fun v15 ev15 => ?_)
              have ev15 : v15 = (rs_L zr 32) jt := by rw [ev15]; rw [nI_clamp (by omega)]
              subst ev15
              refine lv_iload_n hx hb dX11_spend_69 rfl (lv_at hl 2 rfl) ?_
              refine lv_iconst (v := 1) hx hb dX11_spend_70 (by decide) ?_
              refine lv_icmp_ne (tgt := 79) hx hb dX11_spend_71 (by decide) (fun c16 => ?_) (fun c16 => ?_)
              · skip
                refine lv_lconst (v := 0) hx hb dX11_spend_79 (by decide) ?_
                refine lv_ladd hx hb dX11_spend_80 ?_
                refine va_last hx hb hK hP hD hS 23 1 rfl rfl (vp_in_nI (by omega) (by omega)) dX11_spend_81 (fun H locs hP hD hS => ?_)
                rw [nI_clamp (n := jt) (by omega)] at hP hD
                have hP : va_P (dC, dI) vwCl [rcO qm ad zr, rcI cI ad zr 2 48, rcI cI ad zr 3 48, rcI cI ad zr 4 48, rcI cI ad zr 5 48, rcI cI ad zr 7 4, rcI cI ad zr 8 4, rcI cI ad zr 9 192, rcI cI ad zr 10 48, rcI cI ad zr 12 12, rcI cI ad zr 13 12, rcI cI ad zr 14 12, rcI cI ad zr 15 12, rcI cI ad zr 16 12, rcI cI ad zr 18 8, rcJ cJ ad zr 19 8, rcI cI ad zr 25 40, rcI cI ad zr 26 40, rcI cI ad zr 27 40, rcI cZ ad zr 28 40, rcJ cJ ad zr 29 40, rcJ cJ ad zr 30 40, (ad 31, .inl (cJ, 40, .inr (.inl (vp_updL (rs_L zr 31) jt (((rs_L zr 31) jt) + 0))))), (ad 32, .inl (cJ, 40, .inr (.inl (vp_updL (rs_L zr 32) jt (((rs_L zr 32) jt) + 0))))), rcJ cJ ad zr 33 40, rcI cI ad zr 35 80, rcI cI ad zr 36 80, rcI cI ad zr 37 80] H := hP
                have hD : va_D _ [rcO qm ad zr, rcI cI ad zr 2 48, rcI cI ad zr 3 48, rcI cI ad zr 4 48, rcI cI ad zr 5 48, rcI cI ad zr 7 4, rcI cI ad zr 8 4, rcI cI ad zr 9 192, rcI cI ad zr 10 48, rcI cI ad zr 12 12, rcI cI ad zr 13 12, rcI cI ad zr 14 12, rcI cI ad zr 15 12, rcI cI ad zr 16 12, rcI cI ad zr 18 8, rcJ cJ ad zr 19 8, rcI cI ad zr 25 40, rcI cI ad zr 26 40, rcI cI ad zr 27 40, rcI cZ ad zr 28 40, rcJ cJ ad zr 29 40, rcJ cJ ad zr 30 40, (ad 31, .inl (cJ, 40, .inr (.inl (vp_updL (rs_L zr 31) jt (((rs_L zr 31) jt) + 0))))), (ad 32, .inl (cJ, 40, .inr (.inl (vp_updL (rs_L zr 32) jt (((rs_L zr 32) jt) + 0))))), rcJ cJ ad zr 33 40, rcI cI ad zr 35 80, rcI cI ad zr 36 80, rcI cI ad zr 37 80] := hD
                refine lv_iload_n hx hb dX11_spend_82 rfl (lv_at hl 2 rfl) ?_
                refine lv_if_ne (tgt := 95) hx hb dX11_spend_83 (by decide) (fun c17 => ?_) (fun c17 => ?_)
                · skip
                  refine lv_aload_n hx hb dX11_spend_95 rfl (lv_at hl 0 rfl) ?_
                  refine va_get (D := (dC, dI)) (ci := 11) (v := .ref (ad 32)) (C := RX11) (T := TX11) (N := 39) hx hb hts hiX11 hown hK hP 0 rfl rfl 32 (by decide) (hts (.fieldLink RX11 78 "TributePitchesModel" "ahead" "[J") (by decide +kernel)) (fun _ h9 => h9) rfl dX11_spend_96 ?_
                  refine lv_iload_n hx hb dX11_spend_99 rfl (lv_at hl 1 rfl) ?_
                  refine va_lald hx hb hK hP 23 1 rfl rfl (vp_in_nI (by omega) (by omega)) dX11_spend_100 ?_
                  refine lv_topl (fun v18 ev18 => ?_)
                  have ev18 : v18 = (vp_updL (rs_L zr 32) jt (((rs_L zr 32) jt) + 0)) jt := by rw [ev18]; rw [nI_clamp (by omega)]
                  subst ev18
                  subst hQ
                  have hlf := lr_spend_3 qm cI cJ cZ ad zr wh pn jt hjt c6 c9 c12 c14 c16 c17 hI
                  have hP9 : va_P (dC, dI) vwCl (rW qm cI cJ cZ ad (rs_i zr, rs_n zr, rs_I zr, va_up (va_up (rs_L zr) 31 (vp_updL (rs_L zr 31) jt (((rs_L zr 31) jt) + 0))) 32 (vp_updL (rs_L zr 32) jt (((rs_L zr 32) jt) + 0)))) H := by rw [hlf.2]; exact hP.sub [0, 1, 2, 3, 4, 5, 6, 7, 8, 9, 10, 11, 12, 13, 14, 15, 16, 17, 18, 19, 20, 21, 22, 23, 24, 25, 26, 27] rfl
                  have hD9 : va_D (va_A (rW qm cI cJ cZ ad zr) s.heap.size) (rW qm cI cJ cZ ad (rs_i zr, rs_n zr, rs_I zr, va_up (va_up (rs_L zr) 31 (vp_updL (rs_L zr 31) jt (((rs_L zr 31) jt) + 0))) 32 (vp_updL (rs_L zr 32) jt (((rs_L zr 32) jt) + 0)))) := by rw [hlf.2]; exact hD.sub [0, 1, 2, 3, 4, 5, 6, 7, 8, 9, 10, 11, 12, 13, 14, 15, 16, 17, 18, 19, 20, 21, 22, 23, 24, 25, 26, 27] (by decide) rfl
                  exact W.lret (v := (vp_updL (rs_L zr 32) jt (((rs_L zr 32) jt) + 0)) jt) hx hb hr (fun t ht hW => ⟨⟨(vp_updL (rs_L zr 32) jt (((rs_L zr 32) jt) + 0)) jt, (rs_i zr, rs_n zr, rs_I zr, va_up (va_up (rs_L zr) 31 (vp_updL (rs_L zr 31) jt (((rs_L zr 31) jt) + 0))) 32 (vp_updL (rs_L zr 32) jt (((rs_L zr 32) jt) + 0))), rfl, ⟨hlf.1, (Or.inr (Or.inr (Or.inr (Or.inl ⟨jt, rfl, hjt, c6, c9, c12, c14, c16, c17, rfl, rfl⟩))))⟩, by rw [ht]; exact hP9, va_K.moved hW.alike hK, hD9⟩, hS.F ht⟩) hS.2.2 dX11_spend_101
                · skip
                  refine lv_aload_n hx hb dX11_spend_86 rfl (lv_at hl 0 rfl) ?_
                  refine va_get (D := (dC, dI)) (ci := 11) (v := .ref (ad 31)) (C := RX11) (T := TX11) (N := 39) hx hb hts hiX11 hown hK hP 0 rfl rfl 31 (by decide) (hts (.fieldLink RX11 75 "TributePitchesModel" "costs" "[J") (by decide +kernel)) (fun _ h9 => h9) rfl dX11_spend_87 ?_
                  refine lv_iload_n hx hb dX11_spend_90 rfl (lv_at hl 1 rfl) ?_
                  refine va_lald hx hb hK hP 22 1 rfl rfl (vp_in_nI (by omega) (by omega)) dX11_spend_91 ?_
                  refine lv_topl (fun v19 ev19 => ?_)
                  have ev19 : v19 = (vp_updL (rs_L zr 31) jt (((rs_L zr 31) jt) + 0)) jt := by rw [ev19]; rw [nI_clamp (by omega)]
                  subst ev19
                  refine lv_goto (tgt := 101) hx hb dX11_spend_92 (by decide) ?_
                  subst hQ
                  have hlf := lr_spend_4 qm cI cJ cZ ad zr wh pn jt hjt c6 c9 c12 c14 c16 c17 hI
                  have hP9 : va_P (dC, dI) vwCl (rW qm cI cJ cZ ad (rs_i zr, rs_n zr, rs_I zr, va_up (va_up (rs_L zr) 31 (vp_updL (rs_L zr 31) jt (((rs_L zr 31) jt) + 0))) 32 (vp_updL (rs_L zr 32) jt (((rs_L zr 32) jt) + 0)))) H := by rw [hlf.2]; exact hP.sub [0, 1, 2, 3, 4, 5, 6, 7, 8, 9, 10, 11, 12, 13, 14, 15, 16, 17, 18, 19, 20, 21, 22, 23, 24, 25, 26, 27] rfl
                  have hD9 : va_D (va_A (rW qm cI cJ cZ ad zr) s.heap.size) (rW qm cI cJ cZ ad (rs_i zr, rs_n zr, rs_I zr, va_up (va_up (rs_L zr) 31 (vp_updL (rs_L zr 31) jt (((rs_L zr 31) jt) + 0))) 32 (vp_updL (rs_L zr 32) jt (((rs_L zr 32) jt) + 0)))) := by rw [hlf.2]; exact hD.sub [0, 1, 2, 3, 4, 5, 6, 7, 8, 9, 10, 11, 12, 13, 14, 15, 16, 17, 18, 19, 20, 21, 22, 23, 24, 25, 26, 27] (by decide) rfl
                  exact W.lret (v := (vp_updL (rs_L zr 31) jt (((rs_L zr 31) jt) + 0)) jt) hx hb hr (fun t ht hW => ⟨⟨(vp_updL (rs_L zr 31) jt (((rs_L zr 31) jt) + 0)) jt, (rs_i zr, rs_n zr, rs_I zr, va_up (va_up (rs_L zr) 31 (vp_updL (rs_L zr 31) jt (((rs_L zr 31) jt) + 0))) 32 (vp_updL (rs_L zr 32) jt (((rs_L zr 32) jt) + 0))), rfl, ⟨hlf.1, (Or.inr (Or.inr (Or.inr (Or.inr (Or.inl ⟨jt, rfl, hjt, c6, c9, c12, c14, c16, c17, rfl, rfl⟩)))))⟩, by rw [ht]; exact hP9, va_K.moved hW.alike hK, hD9⟩, hS.F ht⟩) hS.2.2 dX11_spend_101
              · skip
                refine lv_iload_n hx hb dX11_spend_74 rfl (lv_at hl 3 rfl) ?_
                refine lv_i2l (v := pn.toInt64) hx hb dX11_spend_75 rfl ?_
                refine lv_goto (tgt := 80) hx hb dX11_spend_76 (by decide) ?_
                refine lv_ladd hx hb dX11_spend_80 ?_
                refine va_last hx hb hK hP hD hS 23 1 rfl rfl (vp_in_nI (by omega) (by omega)) dX11_spend_81 (fun H locs hP hD hS => ?_)
                rw [nI_clamp (n := jt) (by omega)] at hP hD
                have hP : va_P (dC, dI) vwCl [rcO qm ad zr, rcI cI ad zr 2 48, rcI cI ad zr 3 48, rcI cI ad zr 4 48, rcI cI ad zr 5 48, rcI cI ad zr 7 4, rcI cI ad zr 8 4, rcI cI ad zr 9 192, rcI cI ad zr 10 48, rcI cI ad zr 12 12, rcI cI ad zr 13 12, rcI cI ad zr 14 12, rcI cI ad zr 15 12, rcI cI ad zr 16 12, rcI cI ad zr 18 8, rcJ cJ ad zr 19 8, rcI cI ad zr 25 40, rcI cI ad zr 26 40, rcI cI ad zr 27 40, rcI cZ ad zr 28 40, rcJ cJ ad zr 29 40, rcJ cJ ad zr 30 40, (ad 31, .inl (cJ, 40, .inr (.inl (vp_updL (rs_L zr 31) jt (((rs_L zr 31) jt) + 0))))), (ad 32, .inl (cJ, 40, .inr (.inl (vp_updL (rs_L zr 32) jt (((rs_L zr 32) jt) + pn.toInt64))))), rcJ cJ ad zr 33 40, rcI cI ad zr 35 80, rcI cI ad zr 36 80, rcI cI ad zr 37 80] H := hP
                have hD : va_D _ [rcO qm ad zr, rcI cI ad zr 2 48, rcI cI ad zr 3 48, rcI cI ad zr 4 48, rcI cI ad zr 5 48, rcI cI ad zr 7 4, rcI cI ad zr 8 4, rcI cI ad zr 9 192, rcI cI ad zr 10 48, rcI cI ad zr 12 12, rcI cI ad zr 13 12, rcI cI ad zr 14 12, rcI cI ad zr 15 12, rcI cI ad zr 16 12, rcI cI ad zr 18 8, rcJ cJ ad zr 19 8, rcI cI ad zr 25 40, rcI cI ad zr 26 40, rcI cI ad zr 27 40, rcI cZ ad zr 28 40, rcJ cJ ad zr 29 40, rcJ cJ ad zr 30 40, (ad 31, .inl (cJ, 40, .inr (.inl (vp_updL (rs_L zr 31) jt (((rs_L zr 31) jt) + 0))))), (ad 32, .inl (cJ, 40, .inr (.inl (vp_updL (rs_L zr 32) jt (((rs_L zr 32) jt) + pn.toInt64))))), rcJ cJ ad zr 33 40, rcI cI ad zr 35 80, rcI cI ad zr 36 80, rcI cI ad zr 37 80] := hD
                refine lv_iload_n hx hb dX11_spend_82 rfl (lv_at hl 2 rfl) ?_
                refine lv_if_ne (tgt := 95) hx hb dX11_spend_83 (by decide) (fun c20 => ?_) (fun c20 => ?_)
                · skip
                  refine lv_aload_n hx hb dX11_spend_95 rfl (lv_at hl 0 rfl) ?_
                  refine va_get (D := (dC, dI)) (ci := 11) (v := .ref (ad 32)) (C := RX11) (T := TX11) (N := 39) hx hb hts hiX11 hown hK hP 0 rfl rfl 32 (by decide) (hts (.fieldLink RX11 78 "TributePitchesModel" "ahead" "[J") (by decide +kernel)) (fun _ h9 => h9) rfl dX11_spend_96 ?_
                  refine lv_iload_n hx hb dX11_spend_99 rfl (lv_at hl 1 rfl) ?_
                  refine va_lald hx hb hK hP 23 1 rfl rfl (vp_in_nI (by omega) (by omega)) dX11_spend_100 ?_
                  refine lv_topl (fun v21 ev21 => ?_)
                  have ev21 : v21 = (vp_updL (rs_L zr 32) jt (((rs_L zr 32) jt) + pn.toInt64)) jt := by rw [ev21]; rw [nI_clamp (by omega)]
                  subst ev21
                  subst hQ
                  have hlf := lr_spend_5 qm cI cJ cZ ad zr wh pn jt hjt c6 c9 c12 c14 c16 c20 hI
                  have hP9 : va_P (dC, dI) vwCl (rW qm cI cJ cZ ad (rs_i zr, rs_n zr, rs_I zr, va_up (va_up (rs_L zr) 31 (vp_updL (rs_L zr 31) jt (((rs_L zr 31) jt) + 0))) 32 (vp_updL (rs_L zr 32) jt (((rs_L zr 32) jt) + pn.toInt64)))) H := by rw [hlf.2]; exact hP.sub [0, 1, 2, 3, 4, 5, 6, 7, 8, 9, 10, 11, 12, 13, 14, 15, 16, 17, 18, 19, 20, 21, 22, 23, 24, 25, 26, 27] rfl
                  have hD9 : va_D (va_A (rW qm cI cJ cZ ad zr) s.heap.size) (rW qm cI cJ cZ ad (rs_i zr, rs_n zr, rs_I zr, va_up (va_up (rs_L zr) 31 (vp_updL (rs_L zr 31) jt (((rs_L zr 31) jt) + 0))) 32 (vp_updL (rs_L zr 32) jt (((rs_L zr 32) jt) + pn.toInt64)))) := by rw [hlf.2]; exact hD.sub [0, 1, 2, 3, 4, 5, 6, 7, 8, 9, 10, 11, 12, 13, 14, 15, 16, 17, 18, 19, 20, 21, 22, 23, 24, 25, 26, 27] (by decide) rfl
                  exact W.lret (v := (vp_updL (rs_L zr 32) jt (((rs_L zr 32) jt) + pn.toInt64)) jt) hx hb hr (fun t ht hW => ⟨⟨(vp_updL (rs_L zr 32) jt (((rs_L zr 32) jt) + pn.toInt64)) jt, (rs_i zr, rs_n zr, rs_I zr, va_up (va_up (rs_L zr) 31 (vp_updL (rs_L zr 31) jt (((rs_L zr 31) jt) + 0))) 32 (vp_updL (rs_L zr 32) jt (((rs_L zr 32) jt) + pn.toInt64))), rfl, ⟨hlf.1, (Or.inr (Or.inr (Or.inr (Or.inr (Or.inr (Or.inl ⟨jt, rfl, hjt, c6, c9, c12, c14, c16, c20, rfl, rfl⟩))))))⟩, by rw [ht]; exact hP9, va_K.moved hW.alike hK, hD9⟩, hS.F ht⟩) hS.2.2 dX11_spend_101
                · skip
                  refine lv_aload_n hx hb dX11_spend_86 rfl (lv_at hl 0 rfl) ?_
                  refine va_get (D := (dC, dI)) (ci := 11) (v := .ref (ad 31)) (C := RX11) (T := TX11) (N := 39) hx hb hts hiX11 hown hK hP 0 rfl rfl 31 (by decide) (hts (.fieldLink RX11 75 "TributePitchesModel" "costs" "[J") (by decide +kernel)) (fun _ h9 => h9) rfl dX11_spend_87 ?_
                  refine lv_iload_n hx hb dX11_spend_90 rfl (lv_at hl 1 rfl) ?_
                  refine va_lald hx hb hK hP 22 1 rfl rfl (vp_in_nI (by omega) (by omega)) dX11_spend_91 ?_
                  refine lv_topl (fun v22 ev22 => ?_)
                  have ev22 : v22 = (vp_updL (rs_L zr 31) jt (((rs_L zr 31) jt) + 0)) jt := by rw [ev22]; rw [nI_clamp (by omega)]
                  subst ev22
                  refine lv_goto (tgt := 101) hx hb dX11_spend_92 (by decide) ?_
                  subst hQ
                  have hlf := lr_spend_6 qm cI cJ cZ ad zr wh pn jt hjt c6 c9 c12 c14 c16 c20 hI
                  have hP9 : va_P (dC, dI) vwCl (rW qm cI cJ cZ ad (rs_i zr, rs_n zr, rs_I zr, va_up (va_up (rs_L zr) 31 (vp_updL (rs_L zr 31) jt (((rs_L zr 31) jt) + 0))) 32 (vp_updL (rs_L zr 32) jt (((rs_L zr 32) jt) + pn.toInt64)))) H := by rw [hlf.2]; exact hP.sub [0, 1, 2, 3, 4, 5, 6, 7, 8, 9, 10, 11, 12, 13, 14, 15, 16, 17, 18, 19, 20, 21, 22, 23, 24, 25, 26, 27] rfl
                  have hD9 : va_D (va_A (rW qm cI cJ cZ ad zr) s.heap.size) (rW qm cI cJ cZ ad (rs_i zr, rs_n zr, rs_I zr, va_up (va_up (rs_L zr) 31 (vp_updL (rs_L zr 31) jt (((rs_L zr 31) jt) + 0))) 32 (vp_updL (rs_L zr 32) jt (((rs_L zr 32) jt) + pn.toInt64)))) := by rw [hlf.2]; exact hD.sub [0, 1, 2, 3, 4, 5, 6, 7, 8, 9, 10, 11, 12, 13, 14, 15, 16, 17, 18, 19, 20, 21, 22, 23, 24, 25, 26, 27] (by decide) rfl
                  exact W.lret (v := (vp_updL (rs_L zr 31) jt (((rs_L zr 31) jt) + 0)) jt) hx hb hr (fun t ht hW => ⟨⟨(vp_updL (rs_L zr 31) jt (((rs_L zr 31) jt) + 0)) jt, (rs_i zr, rs_n zr, rs_I zr, va_up (va_up (rs_L zr) 31 (vp_updL (rs_L zr 31) jt (((rs_L zr 31) jt) + 0))) 32 (vp_updL (rs_L zr 32) jt (((rs_L zr 32) jt) + pn.toInt64))), rfl, ⟨hlf.1, (Or.inr (Or.inr (Or.inr (Or.inr (Or.inr (Or.inr (Or.inl ⟨jt, rfl, hjt, c6, c9, c12, c14, c16, c20, rfl, rfl⟩)))))))⟩, by rw [ht]; exact hP9, va_K.moved hW.alike hK, hD9⟩, hS.F ht⟩) hS.2.2 dX11_spend_101
            · skip
              refine lv_iload_n hx hb dX11_spend_54 rfl (lv_at hl 3 rfl) ?_
              refine lv_i2l (v := pn.toInt64) hx hb dX11_spend_55 rfl ?_
              refine lv_goto (tgt := 60) hx hb dX11_spend_56 (by decide) ?_
              refine lv_ladd hx hb dX11_spend_60 ?_
              refine va_last hx hb hK hP hD hS 22 1 rfl rfl (vp_in_nI (by omega) (by omega)) dX11_spend_61 (fun H locs hP hD hS => ?_)
              rw [nI_clamp (n := jt) (by omega)] at hP hD
              have hP : va_P (dC, dI) vwCl [rcO qm ad zr, rcI cI ad zr 2 48, rcI cI ad zr 3 48, rcI cI ad zr 4 48, rcI cI ad zr 5 48, rcI cI ad zr 7 4, rcI cI ad zr 8 4, rcI cI ad zr 9 192, rcI cI ad zr 10 48, rcI cI ad zr 12 12, rcI cI ad zr 13 12, rcI cI ad zr 14 12, rcI cI ad zr 15 12, rcI cI ad zr 16 12, rcI cI ad zr 18 8, rcJ cJ ad zr 19 8, rcI cI ad zr 25 40, rcI cI ad zr 26 40, rcI cI ad zr 27 40, rcI cZ ad zr 28 40, rcJ cJ ad zr 29 40, rcJ cJ ad zr 30 40, (ad 31, .inl (cJ, 40, .inr (.inl (vp_updL (rs_L zr 31) jt (((rs_L zr 31) jt) + pn.toInt64))))), rcJ cJ ad zr 32 40, rcJ cJ ad zr 33 40, rcI cI ad zr 35 80, rcI cI ad zr 36 80, rcI cI ad zr 37 80] H := hP
              have hD : va_D _ [rcO qm ad zr, rcI cI ad zr 2 48, rcI cI ad zr 3 48, rcI cI ad zr 4 48, rcI cI ad zr 5 48, rcI cI ad zr 7 4, rcI cI ad zr 8 4, rcI cI ad zr 9 192, rcI cI ad zr 10 48, rcI cI ad zr 12 12, rcI cI ad zr 13 12, rcI cI ad zr 14 12, rcI cI ad zr 15 12, rcI cI ad zr 16 12, rcI cI ad zr 18 8, rcJ cJ ad zr 19 8, rcI cI ad zr 25 40, rcI cI ad zr 26 40, rcI cI ad zr 27 40, rcI cZ ad zr 28 40, rcJ cJ ad zr 29 40, rcJ cJ ad zr 30 40, (ad 31, .inl (cJ, 40, .inr (.inl (vp_updL (rs_L zr 31) jt (((rs_L zr 31) jt) + pn.toInt64))))), rcJ cJ ad zr 32 40, rcJ cJ ad zr 33 40, rcI cI ad zr 35 80, rcI cI ad zr 36 80, rcI cI ad zr 37 80] := hD
              refine lv_aload_n hx hb dX11_spend_62 rfl (lv_at hl 0 rfl) ?_
              refine va_get (D := (dC, dI)) (ci := 11) (v := .ref (ad 32)) (C := RX11) (T := TX11) (N := 39) hx hb hts hiX11 hown hK hP 0 rfl rfl 32 (by decide) (hts (.fieldLink RX11 78 "TributePitchesModel" "ahead" "[J") (by decide +kernel)) (fun _ h9 => h9) rfl dX11_spend_63 ?_
              refine lv_iload_n hx hb dX11_spend_66 rfl (lv_at hl 1 rfl) ?_
              refine lv_dup2_11 hx hb dX11_spend_67 rfl rfl ?_
              refine va_lald hx hb hK hP 23 1 rfl rfl (vp_in_nI (by omega) (by omega)) dX11_spend_68 ?_
              refine lv_topl (fun v23 ev23 => ?_)
              have ev23 : v23 = (rs_L zr 32) jt := by rw [ev23]; rw [nI_clamp (by omega)]
              subst ev23
              refine lv_iload_n hx hb dX11_spend_69 rfl (lv_at hl 2 rfl) ?_
              refine lv_iconst (v := 1) hx hb dX11_spend_70 (by decide) ?_
              refine lv_icmp_ne (tgt := 79) hx hb dX11_spend_71 (by decide) (fun c24 => ?_) (fun c24 => ?_)
              · skip
                refine lv_lconst (v := 0) hx hb dX11_spend_79 (by decide) ?_
                refine lv_ladd hx hb dX11_spend_80 ?_
                refine va_last hx hb hK hP hD hS 23 1 rfl rfl (vp_in_nI (by omega) (by omega)) dX11_spend_81 (fun H locs hP hD hS => ?_)
                rw [nI_clamp (n := jt) (by omega)] at hP hD
                have hP : va_P (dC, dI) vwCl [rcO qm ad zr, rcI cI ad zr 2 48, rcI cI ad zr 3 48, rcI cI ad zr 4 48, rcI cI ad zr 5 48, rcI cI ad zr 7 4, rcI cI ad zr 8 4, rcI cI ad zr 9 192, rcI cI ad zr 10 48, rcI cI ad zr 12 12, rcI cI ad zr 13 12, rcI cI ad zr 14 12, rcI cI ad zr 15 12, rcI cI ad zr 16 12, rcI cI ad zr 18 8, rcJ cJ ad zr 19 8, rcI cI ad zr 25 40, rcI cI ad zr 26 40, rcI cI ad zr 27 40, rcI cZ ad zr 28 40, rcJ cJ ad zr 29 40, rcJ cJ ad zr 30 40, (ad 31, .inl (cJ, 40, .inr (.inl (vp_updL (rs_L zr 31) jt (((rs_L zr 31) jt) + pn.toInt64))))), (ad 32, .inl (cJ, 40, .inr (.inl (vp_updL (rs_L zr 32) jt (((rs_L zr 32) jt) + 0))))), rcJ cJ ad zr 33 40, rcI cI ad zr 35 80, rcI cI ad zr 36 80, rcI cI ad zr 37 80] H := hP
                have hD : va_D _ [rcO qm ad zr, rcI cI ad zr 2 48, rcI cI ad zr 3 48, rcI cI ad zr 4 48, rcI cI ad zr 5 48, rcI cI ad zr 7 4, rcI cI ad zr 8 4, rcI cI ad zr 9 192, rcI cI ad zr 10 48, rcI cI ad zr 12 12, rcI cI ad zr 13 12, rcI cI ad zr 14 12, rcI cI ad zr 15 12, rcI cI ad zr 16 12, rcI cI ad zr 18 8, rcJ cJ ad zr 19 8, rcI cI ad zr 25 40, rcI cI ad zr 26 40, rcI cI ad zr 27 40, rcI cZ ad zr 28 40, rcJ cJ ad zr 29 40, rcJ cJ ad zr 30 40, (ad 31, .inl (cJ, 40, .inr (.inl (vp_updL (rs_L zr 31) jt (((rs_L zr 31) jt) + pn.toInt64))))), (ad 32, .inl (cJ, 40, .inr (.inl (vp_updL (rs_L zr 32) jt (((rs_L zr 32) jt) + 0))))), rcJ cJ ad zr 33 40, rcI cI ad zr 35 80, rcI cI ad zr 36 80, rcI cI ad zr 37 80] := hD
                refine lv_iload_n hx hb dX11_spend_82 rfl (lv_at hl 2 rfl) ?_
                refine lv_if_ne (tgt := 95) hx hb dX11_spend_83 (by decide) (fun c25 => ?_) (fun c25 => ?_)
                · skip
                  refine lv_aload_n hx hb dX11_spend_95 rfl (lv_at hl 0 rfl) ?_
                  refine va_get (D := (dC, dI)) (ci := 11) (v := .ref (ad 32)) (C := RX11) (T := TX11) (N := 39) hx hb hts hiX11 hown hK hP 0 rfl rfl 32 (by decide) (hts (.fieldLink RX11 78 "TributePitchesModel" "ahead" "[J") (by decide +kernel)) (fun _ h9 => h9) rfl dX11_spend_96 ?_
                  refine lv_iload_n hx hb dX11_spend_99 rfl (lv_at hl 1 rfl) ?_
                  refine va_lald hx hb hK hP 23 1 rfl rfl (vp_in_nI (by omega) (by omega)) dX11_spend_100 ?_
                  refine lv_topl (fun v26 ev26 => ?_)
                  have ev26 : v26 = (vp_updL (rs_L zr 32) jt (((rs_L zr 32) jt) + 0)) jt := by rw [ev26]; rw [nI_clamp (by omega)]
                  subst ev26
                  subst hQ
                  have hlf := lr_spend_7 qm cI cJ cZ ad zr wh pn jt hjt c6 c9 c12 c14 c24 c25 hI
                  have hP9 : va_P (dC, dI) vwCl (rW qm cI cJ cZ ad (rs_i zr, rs_n zr, rs_I zr, va_up (va_up (rs_L zr) 31 (vp_updL (rs_L zr 31) jt (((rs_L zr 31) jt) + pn.toInt64))) 32 (vp_updL (rs_L zr 32) jt (((rs_L zr 32) jt) + 0)))) H := by rw [hlf.2]; exact hP.sub [0, 1, 2, 3, 4, 5, 6, 7, 8, 9, 10, 11, 12, 13, 14, 15, 16, 17, 18, 19, 20, 21, 22, 23, 24, 25, 26, 27] rfl
                  have hD9 : va_D (va_A (rW qm cI cJ cZ ad zr) s.heap.size) (rW qm cI cJ cZ ad (rs_i zr, rs_n zr, rs_I zr, va_up (va_up (rs_L zr) 31 (vp_updL (rs_L zr 31) jt (((rs_L zr 31) jt) + pn.toInt64))) 32 (vp_updL (rs_L zr 32) jt (((rs_L zr 32) jt) + 0)))) := by rw [hlf.2]; exact hD.sub [0, 1, 2, 3, 4, 5, 6, 7, 8, 9, 10, 11, 12, 13, 14, 15, 16, 17, 18, 19, 20, 21, 22, 23, 24, 25, 26, 27] (by decide) rfl
                  exact W.lret (v := (vp_updL (rs_L zr 32) jt (((rs_L zr 32) jt) + 0)) jt) hx hb hr (fun t ht hW => ⟨⟨(vp_updL (rs_L zr 32) jt (((rs_L zr 32) jt) + 0)) jt, (rs_i zr, rs_n zr, rs_I zr, va_up (va_up (rs_L zr) 31 (vp_updL (rs_L zr 31) jt (((rs_L zr 31) jt) + pn.toInt64))) 32 (vp_updL (rs_L zr 32) jt (((rs_L zr 32) jt) + 0))), rfl, ⟨hlf.1, (Or.inr (Or.inr (Or.inr (Or.inr (Or.inr (Or.inr (Or.inr (Or.inl ⟨jt, rfl, hjt, c6, c9, c12, c14, c24, c25, rfl, rfl⟩))))))))⟩, by rw [ht]; exact hP9, va_K.moved hW.alike hK, hD9⟩, hS.F ht⟩) hS.2.2 dX11_spend_101
                · skip
                  refine lv_aload_n hx hb dX11_spend_86 rfl (lv_at hl 0 rfl) ?_
                  refine va_get (D := (dC, dI)) (ci := 11) (v := .ref (ad 31)) (C := RX11) (T := TX11) (N := 39) hx hb hts hiX11 hown hK hP 0 rfl rfl 31 (by decide) (hts (.fieldLink RX11 75 "TributePitchesModel" "costs" "[J") (by decide +kernel)) (fun _ h9 => h9) rfl dX11_spend_87 ?_
                  refine lv_iload_n hx hb dX11_spend_90 rfl (lv_at hl 1 rfl) ?_
                  refine va_lald hx hb hK hP 22 1 rfl rfl (vp_in_nI (by omega) (by omega)) dX11_spend_91 ?_
                  refine lv_topl (fun v27 ev27 => ?_)
                  have ev27 : v27 = (vp_updL (rs_L zr 31) jt (((rs_L zr 31) jt) + pn.toInt64)) jt := by rw [ev27]; rw [nI_clamp (by omega)]
                  subst ev27
                  refine lv_goto (tgt := 101) hx hb dX11_spend_92 (by decide) ?_
                  subst hQ
                  have hlf := lr_spend_8 qm cI cJ cZ ad zr wh pn jt hjt c6 c9 c12 c14 c24 c25 hI
                  have hP9 : va_P (dC, dI) vwCl (rW qm cI cJ cZ ad (rs_i zr, rs_n zr, rs_I zr, va_up (va_up (rs_L zr) 31 (vp_updL (rs_L zr 31) jt (((rs_L zr 31) jt) + pn.toInt64))) 32 (vp_updL (rs_L zr 32) jt (((rs_L zr 32) jt) + 0)))) H := by rw [hlf.2]; exact hP.sub [0, 1, 2, 3, 4, 5, 6, 7, 8, 9, 10, 11, 12, 13, 14, 15, 16, 17, 18, 19, 20, 21, 22, 23, 24, 25, 26, 27] rfl
                  have hD9 : va_D (va_A (rW qm cI cJ cZ ad zr) s.heap.size) (rW qm cI cJ cZ ad (rs_i zr, rs_n zr, rs_I zr, va_up (va_up (rs_L zr) 31 (vp_updL (rs_L zr 31) jt (((rs_L zr 31) jt) + pn.toInt64))) 32 (vp_updL (rs_L zr 32) jt (((rs_L zr 32) jt) + 0)))) := by rw [hlf.2]; exact hD.sub [0, 1, 2, 3, 4, 5, 6, 7, 8, 9, 10, 11, 12, 13, 14, 15, 16, 17, 18, 19, 20, 21, 22, 23, 24, 25, 26, 27] (by decide) rfl
                  exact W.lret (v := (vp_updL (rs_L zr 31) jt (((rs_L zr 31) jt) + pn.toInt64)) jt) hx hb hr (fun t ht hW => ⟨⟨(vp_updL (rs_L zr 31) jt (((rs_L zr 31) jt) + pn.toInt64)) jt, (rs_i zr, rs_n zr, rs_I zr, va_up (va_up (rs_L zr) 31 (vp_updL (rs_L zr 31) jt (((rs_L zr 31) jt) + pn.toInt64))) 32 (vp_updL (rs_L zr 32) jt (((rs_L zr 32) jt) + 0))), rfl, ⟨hlf.1, (Or.inr (Or.inr (Or.inr (Or.inr (Or.inr (Or.inr (Or.inr (Or.inr (Or.inl ⟨jt, rfl, hjt, c6, c9, c12, c14, c24, c25, rfl, rfl⟩)))))))))⟩, by rw [ht]; exact hP9, va_K.moved hW.alike hK, hD9⟩, hS.F ht⟩) hS.2.2 dX11_spend_101
              · skip
                refine lv_iload_n hx hb dX11_spend_74 rfl (lv_at hl 3 rfl) ?_
                refine lv_i2l (v := pn.toInt64) hx hb dX11_spend_75 rfl ?_
                refine lv_goto (tgt := 80) hx hb dX11_spend_76 (by decide) ?_
                refine lv_ladd hx hb dX11_spend_80 ?_
                refine va_last hx hb hK hP hD hS 23 1 rfl rfl (vp_in_nI (by omega) (by omega)) dX11_spend_81 (fun H locs hP hD hS => ?_)
                rw [nI_clamp (n := jt) (by omega)] at hP hD
                have hP : va_P (dC, dI) vwCl [rcO qm ad zr, rcI cI ad zr 2 48, rcI cI ad zr 3 48, rcI cI ad zr 4 48, rcI cI ad zr 5 48, rcI cI ad zr 7 4, rcI cI ad zr 8 4, rcI cI ad zr 9 192, rcI cI ad zr 10 48, rcI cI ad zr 12 12, rcI cI ad zr 13 12, rcI cI ad zr 14 12, rcI cI ad zr 15 12, rcI cI ad zr 16 12, rcI cI ad zr 18 8, rcJ cJ ad zr 19 8, rcI cI ad zr 25 40, rcI cI ad zr 26 40, rcI cI ad zr 27 40, rcI cZ ad zr 28 40, rcJ cJ ad zr 29 40, rcJ cJ ad zr 30 40, (ad 31, .inl (cJ, 40, .inr (.inl (vp_updL (rs_L zr 31) jt (((rs_L zr 31) jt) + pn.toInt64))))), (ad 32, .inl (cJ, 40, .inr (.inl (vp_updL (rs_L zr 32) jt (((rs_L zr 32) jt) + pn.toInt64))))), rcJ cJ ad zr 33 40, rcI cI ad zr 35 80, rcI cI ad zr 36 80, rcI cI ad zr 37 80] H := hP
                have hD : va_D _ [rcO qm ad zr, rcI cI ad zr 2 48, rcI cI ad zr 3 48, rcI cI ad zr 4 48, rcI cI ad zr 5 48, rcI cI ad zr 7 4, rcI cI ad zr 8 4, rcI cI ad zr 9 192, rcI cI ad zr 10 48, rcI cI ad zr 12 12, rcI cI ad zr 13 12, rcI cI ad zr 14 12, rcI cI ad zr 15 12, rcI cI ad zr 16 12, rcI cI ad zr 18 8, rcJ cJ ad zr 19 8, rcI cI ad zr 25 40, rcI cI ad zr 26 40, rcI cI ad zr 27 40, rcI cZ ad zr 28 40, rcJ cJ ad zr 29 40, rcJ cJ ad zr 30 40, (ad 31, .inl (cJ, 40, .inr (.inl (vp_updL (rs_L zr 31) jt (((rs_L zr 31) jt) + pn.toInt64))))), (ad 32, .inl (cJ, 40, .inr (.inl (vp_updL (rs_L zr 32) jt (((rs_L zr 32) jt) + pn.toInt64))))), rcJ cJ ad zr 33 40, rcI cI ad zr 35 80, rcI cI ad zr 36 80, rcI cI ad zr 37 80] := hD
                refine lv_iload_n hx hb dX11_spend_82 rfl (lv_at hl 2 rfl) ?_
                refine lv_if_ne (tgt := 95) hx hb dX11_spend_83 (by decide) (fun c28 => ?_) (fun c28 => ?_)
                · skip
                  refine lv_aload_n hx hb dX11_spend_95 rfl (lv_at hl 0 rfl) ?_
                  refine va_get (D := (dC, dI)) (ci := 11) (v := .ref (ad 32)) (C := RX11) (T := TX11) (N := 39) hx hb hts hiX11 hown hK hP 0 rfl rfl 32 (by decide) (hts (.fieldLink RX11 78 "TributePitchesModel" "ahead" "[J") (by decide +kernel)) (fun _ h9 => h9) rfl dX11_spend_96 ?_
                  refine lv_iload_n hx hb dX11_spend_99 rfl (lv_at hl 1 rfl) ?_
                  refine va_lald hx hb hK hP 23 1 rfl rfl (vp_in_nI (by omega) (by omega)) dX11_spend_100 ?_
                  refine lv_topl (fun v29 ev29 => ?_)
                  have ev29 : v29 = (vp_updL (rs_L zr 32) jt (((rs_L zr 32) jt) + pn.toInt64)) jt := by rw [ev29]; rw [nI_clamp (by omega)]
                  subst ev29
                  subst hQ
                  have hlf := lr_spend_9 qm cI cJ cZ ad zr wh pn jt hjt c6 c9 c12 c14 c24 c28 hI
                  have hP9 : va_P (dC, dI) vwCl (rW qm cI cJ cZ ad (rs_i zr, rs_n zr, rs_I zr, va_up (va_up (rs_L zr) 31 (vp_updL (rs_L zr 31) jt (((rs_L zr 31) jt) + pn.toInt64))) 32 (vp_updL (rs_L zr 32) jt (((rs_L zr 32) jt) + pn.toInt64)))) H := by rw [hlf.2]; exact hP.sub [0, 1, 2, 3, 4, 5, 6, 7, 8, 9, 10, 11, 12, 13, 14, 15, 16, 17, 18, 19, 20, 21, 22, 23, 24, 25, 26, 27] rfl
                  have hD9 : va_D (va_A (rW qm cI cJ cZ ad zr) s.heap.size) (rW qm cI cJ cZ ad (rs_i zr, rs_n zr, rs_I zr, va_up (va_up (rs_L zr) 31 (vp_updL (rs_L zr 31) jt (((rs_L zr 31) jt) + pn.toInt64))) 32 (vp_updL (rs_L zr 32) jt (((rs_L zr 32) jt) + pn.toInt64)))) := by rw [hlf.2]; exact hD.sub [0, 1, 2, 3, 4, 5, 6, 7, 8, 9, 10, 11, 12, 13, 14, 15, 16, 17, 18, 19, 20, 21, 22, 23, 24, 25, 26, 27] (by decide) rfl
                  exact W.lret (v := (vp_updL (rs_L zr 32) jt (((rs_L zr 32) jt) + pn.toInt64)) jt) hx hb hr (fun t ht hW => ⟨⟨(vp_updL (rs_L zr 32) jt (((rs_L zr 32) jt) + pn.toInt64)) jt, (rs_i zr, rs_n zr, rs_I zr, va_up (va_up (rs_L zr) 31 (vp_updL (rs_L zr 31) jt (((rs_L zr 31) jt) + pn.toInt64))) 32 (vp_updL (rs_L zr 32) jt (((rs_L zr 32) jt) + pn.toInt64))), rfl, ⟨hlf.1, (Or.inr (Or.inr (Or.inr (Or.inr (Or.inr (Or.inr (Or.inr (Or.inr (Or.inr (Or.inl ⟨jt, rfl, hjt, c6, c9, c12, c14, c24, c28, rfl, rfl⟩))))))))))⟩, by rw [ht]; exact hP9, va_K.moved hW.alike hK, hD9⟩, hS.F ht⟩) hS.2.2 dX11_spend_101
                · skip
                  refine lv_aload_n hx hb dX11_spend_86 rfl (lv_at hl 0 rfl) ?_
                  refine va_get (D := (dC, dI)) (ci := 11) (v := .ref (ad 31)) (C := RX11) (T := TX11) (N := 39) hx hb hts hiX11 hown hK hP 0 rfl rfl 31 (by decide) (hts (.fieldLink RX11 75 "TributePitchesModel" "costs" "[J") (by decide +kernel)) (fun _ h9 => h9) rfl dX11_spend_87 ?_
                  refine lv_iload_n hx hb dX11_spend_90 rfl (lv_at hl 1 rfl) ?_
                  refine va_lald hx hb hK hP 22 1 rfl rfl (vp_in_nI (by omega) (by omega)) dX11_spend_91 ?_
                  refine lv_topl (fun v30 ev30 => ?_)
                  have ev30 : v30 = (vp_updL (rs_L zr 31) jt (((rs_L zr 31) jt) + pn.toInt64)) jt := by rw [ev30]; rw [nI_clamp (by omega)]
                  subst ev30
                  refine lv_goto (tgt := 101) hx hb dX11_spend_92 (by decide) ?_
                  subst hQ
                  have hlf := lr_spend_10 qm cI cJ cZ ad zr wh pn jt hjt c6 c9 c12 c14 c24 c28 hI
                  have hP9 : va_P (dC, dI) vwCl (rW qm cI cJ cZ ad (rs_i zr, rs_n zr, rs_I zr, va_up (va_up (rs_L zr) 31 (vp_updL (rs_L zr 31) jt (((rs_L zr 31) jt) + pn.toInt64))) 32 (vp_updL (rs_L zr 32) jt (((rs_L zr 32) jt) + pn.toInt64)))) H := by rw [hlf.2]; exact hP.sub [0, 1, 2, 3, 4, 5, 6, 7, 8, 9, 10, 11, 12, 13, 14, 15, 16, 17, 18, 19, 20, 21, 22, 23, 24, 25, 26, 27] rfl
                  have hD9 : va_D (va_A (rW qm cI cJ cZ ad zr) s.heap.size) (rW qm cI cJ cZ ad (rs_i zr, rs_n zr, rs_I zr, va_up (va_up (rs_L zr) 31 (vp_updL (rs_L zr 31) jt (((rs_L zr 31) jt) + pn.toInt64))) 32 (vp_updL (rs_L zr 32) jt (((rs_L zr 32) jt) + pn.toInt64)))) := by rw [hlf.2]; exact hD.sub [0, 1, 2, 3, 4, 5, 6, 7, 8, 9, 10, 11, 12, 13, 14, 15, 16, 17, 18, 19, 20, 21, 22, 23, 24, 25, 26, 27] (by decide) rfl
                  exact W.lret (v := (vp_updL (rs_L zr 31) jt (((rs_L zr 31) jt) + pn.toInt64)) jt) hx hb hr (fun t ht hW => ⟨⟨(vp_updL (rs_L zr 31) jt (((rs_L zr 31) jt) + pn.toInt64)) jt, (rs_i zr, rs_n zr, rs_I zr, va_up (va_up (rs_L zr) 31 (vp_updL (rs_L zr 31) jt (((rs_L zr 31) jt) + pn.toInt64))) 32 (vp_updL (rs_L zr 32) jt (((rs_L zr 32) jt) + pn.toInt64))), rfl, ⟨hlf.1, (Or.inr (Or.inr (Or.inr (Or.inr (Or.inr (Or.inr (Or.inr (Or.inr (Or.inr (Or.inr (Or.inl ⟨jt, rfl, hjt, c6, c9, c12, c14, c24, c28, rfl, rfl⟩)))))))))))⟩, by rw [ht]; exact hP9, va_K.moved hW.alike hK, hD9⟩, hS.F ht⟩) hS.2.2 dX11_spend_101
          · skip
            refine vp_callSl (va_Run.run (va_runS (As := []) (rest := []) ⟨hx, hb, hml, hown, hts⟩ (c_X11_lost l  ) (va_cwS 0 hts gX11_spend_X11_lost rfl rfl rfl (by decide +kernel) ⟨Nat.le_of_ble_eq_true rfl, Nat.le_of_ble_eq_true rfl⟩) (p0_preS hN) rfl rfl hl.1 rfl (lv_room (Nat.le_of_ble_eq_true rfl)) dX11_spend_39 ⟨Nat.le_of_ble_eq_true rfl, Nat.le_of_ble_eq_true rfl⟩)) (fun r31 hr31 => ?_)
            have hr31 : r31 = (-9223372036854775808) := hr31
            subst hr31
            subst hQ
            exact W.lret (v := (-9223372036854775808)) hx hb hr (fun t ht hW => ⟨⟨(-9223372036854775808), zr, rfl, ⟨hI, (Or.inr (Or.inr (Or.inr (Or.inr (Or.inr (Or.inr (Or.inr (Or.inr (Or.inr (Or.inr (Or.inr ⟨jt, rfl, hjt, c6, c9, c12, rfl, rfl⟩)))))))))))⟩, (by rw [ht]; exact hP0), va_K.moved hW.alike hK, hD0⟩, (by rw [ht]; exact Nat.le_refl _), fun q _ _ => by rw [ht]⟩) (fun q h => absurd h List.not_mem_nil) dX11_spend_42
