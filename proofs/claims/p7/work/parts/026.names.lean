set_option maxRecDepth 20000 in
theorem ggL_law_X11_debt : GoodIn wsL_law wsX11_debt := goodIn_s sL_wsX11_debt (by decide +kernel)
set_option maxRecDepth 20000 in
theorem gL_law_X11_debt : GoodIn wsL_law (wsV RL 89 RX11 yX11_debt wsX11_debt) := goodIn_app (goodIn_r _ [572, 573, 574, 5] (by decide +kernel) (by decide +kernel)) ggL_law_X11_debt
set_option maxRecDepth 20000 in
theorem ggL_law_X10_suspects : GoodIn wsL_law wsX10_suspects := goodIn_s sL_wsX10_suspects (by decide +kernel)
set_option maxRecDepth 20000 in
theorem gL_law_X10_suspects : GoodIn wsL_law (wsV RL 90 RX10 yX10_suspects wsX10_suspects) := goodIn_app (goodIn_r _ [576, 577, 578, 2] (by decide +kernel) (by decide +kernel)) ggL_law_X10_suspects
set_option maxRecDepth 20000 in
theorem ggL_law_X11_suspects : GoodIn wsL_law wsX11_suspects := goodIn_s sL_wsX11_suspects (by decide +kernel)
set_option maxRecDepth 20000 in
theorem gL_law_X11_suspects : GoodIn wsL_law (wsV RL 93 RX11 yX11_suspects wsX11_suspects) := goodIn_app (goodIn_r _ [590, 591, 592, 5] (by decide +kernel) (by decide +kernel)) ggL_law_X11_suspects
set_option maxRecDepth 20000 in
theorem ggL_law_X10_suspect : GoodIn wsL_law wsX10_suspect := goodIn_s sL_wsX10_suspect (by decide +kernel)
set_option maxRecDepth 20000 in
theorem gL_law_X10_suspect : GoodIn wsL_law (wsV RL 94 RX10 yX10_suspect wsX10_suspect) := goodIn_app (goodIn_r _ [598, 599, 600, 2] (by decide +kernel) (by decide +kernel)) ggL_law_X10_suspect
set_option maxRecDepth 20000 in
theorem ggL_law_X11_suspect : GoodIn wsL_law wsX11_suspect := goodIn_s sL_wsX11_suspect (by decide +kernel)
set_option maxRecDepth 20000 in
theorem gL_law_X11_suspect : GoodIn wsL_law (wsV RL 97 RX11 yX11_suspect wsX11_suspect) := goodIn_app (goodIn_r _ [602, 603, 604, 5] (by decide +kernel) (by decide +kernel)) ggL_law_X11_suspect
set_option maxRecDepth 20000 in
theorem ggL_law_X10_skill : GoodIn wsL_law wsX10_skill := goodIn_s sL_wsX10_skill (by decide +kernel)
set_option maxRecDepth 20000 in
theorem gL_law_X10_skill : GoodIn wsL_law (wsV RL 98 RX10 yX10_skill wsX10_skill) := goodIn_app (goodIn_r _ [606, 607, 608, 2] (by decide +kernel) (by decide +kernel)) ggL_law_X10_skill
set_option maxRecDepth 20000 in
theorem ggL_law_X11_skill : GoodIn wsL_law wsX11_skill := goodIn_s sL_wsX11_skill (by decide +kernel)
set_option maxRecDepth 20000 in
theorem gL_law_X11_skill : GoodIn wsL_law (wsV RL 101 RX11 yX11_skill wsX11_skill) := goodIn_app (goodIn_r _ [614, 615, 616, 5] (by decide +kernel) (by decide +kernel)) ggL_law_X11_skill
set_option maxRecDepth 20000 in
theorem ggL_law_X10_sheet : GoodIn wsL_law wsX10_sheet := goodIn_s sL_wsX10_sheet (by decide +kernel)
set_option maxRecDepth 20000 in
theorem gL_law_X10_sheet : GoodIn wsL_law (wsV RL 102 RX10 yX10_sheet wsX10_sheet) := goodIn_app (goodIn_r _ [621, 622, 623, 2] (by decide +kernel) (by decide +kernel)) ggL_law_X10_sheet
set_option maxRecDepth 20000 in
theorem ggL_law_X11_sheet : GoodIn wsL_law wsX11_sheet := goodIn_s sL_wsX11_sheet (by decide +kernel)
set_option maxRecDepth 20000 in
theorem gL_law_X11_sheet : GoodIn wsL_law (wsV RL 105 RX11 yX11_sheet wsX11_sheet) := goodIn_app (goodIn_r _ [630, 631, 632, 5] (by decide +kernel) (by decide +kernel)) ggL_law_X11_sheet
set_option maxRecDepth 20000 in
theorem ggL_law_X10_lose : GoodIn wsL_law wsX10_lose := goodIn_s sL_wsX10_lose (by decide +kernel)
set_option maxRecDepth 20000 in
theorem gL_law_X10_lose : GoodIn wsL_law (wsV RL 106 RX10 yX10_lose wsX10_lose) := goodIn_app (goodIn_r _ [634, 635, 636, 2] (by decide +kernel) (by decide +kernel)) ggL_law_X10_lose
set_option maxRecDepth 20000 in
theorem ggL_law_X11_lose : GoodIn wsL_law wsX11_lose := goodIn_s sL_wsX11_lose (by decide +kernel)
set_option maxRecDepth 20000 in
theorem gL_law_X11_lose : GoodIn wsL_law (wsV RL 109 RX11 yX11_lose wsX11_lose) := goodIn_app (goodIn_r _ [639, 640, 641, 5] (by decide +kernel) (by decide +kernel)) ggL_law_X11_lose
set_option maxRecDepth 20000 in
theorem ggL_law_X10_put : GoodIn wsL_law wsX10_put := goodIn_s sL_wsX10_put (by decide +kernel)
set_option maxRecDepth 20000 in
theorem gL_law_X10_put : GoodIn wsL_law (wsV RL 110 RX10 yX10_put wsX10_put) := goodIn_app (goodIn_r _ [643, 644, 645, 2] (by decide +kernel) (by decide +kernel)) ggL_law_X10_put
set_option maxRecDepth 20000 in
theorem ggL_law_X11_put : GoodIn wsL_law wsX11_put := goodIn_s sL_wsX11_put (by decide +kernel)
set_option maxRecDepth 20000 in
theorem gL_law_X11_put : GoodIn wsL_law (wsV RL 113 RX11 yX11_put wsX11_put) := goodIn_app (goodIn_r _ [651, 652, 653, 5] (by decide +kernel) (by decide +kernel)) ggL_law_X11_put
set_option maxRecDepth 20000 in
theorem ggL_law_X10_cell : GoodIn wsL_law wsX10_cell := goodIn_s sL_wsX10_cell (by decide +kernel)
set_option maxRecDepth 20000 in
theorem gL_law_X10_cell : GoodIn wsL_law (wsV RL 114 RX10 yX10_cell wsX10_cell) := goodIn_app (goodIn_r _ [659, 660, 661, 2] (by decide +kernel) (by decide +kernel)) ggL_law_X10_cell
set_option maxRecDepth 20000 in
theorem ggL_law_X11_cell : GoodIn wsL_law wsX11_cell := goodIn_s sL_wsX11_cell (by decide +kernel)
set_option maxRecDepth 20000 in
theorem gL_law_X11_cell : GoodIn wsL_law (wsV RL 117 RX11 yX11_cell wsX11_cell) := goodIn_app (goodIn_r _ [663, 664, 665, 5] (by decide +kernel) (by decide +kernel)) ggL_law_X11_cell
set_option maxRecDepth 20000 in
theorem ggL_law_X10_copy : GoodIn wsL_law wsX10_copy := goodIn_s sL_wsX10_copy (by decide +kernel)
set_option maxRecDepth 20000 in
theorem gL_law_X10_copy : GoodIn wsL_law (wsV RL 118 RX10 yX10_copy wsX10_copy) := goodIn_app (goodIn_r _ [671, 672, 673, 2] (by decide +kernel) (by decide +kernel)) ggL_law_X10_copy
set_option maxRecDepth 20000 in
theorem ggL_law_X11_copy : GoodIn wsL_law wsX11_copy := goodIn_s sL_wsX11_copy (by decide +kernel)
set_option maxRecDepth 20000 in
theorem gL_law_X11_copy : GoodIn wsL_law (wsV RL 121 RX11 yX11_copy wsX11_copy) := goodIn_app (goodIn_r _ [677, 678, 679, 5] (by decide +kernel) (by decide +kernel)) ggL_law_X11_copy
set_option maxRecDepth 20000 in
theorem ggL_law_X10_tell : GoodIn wsL_law wsX10_tell := goodIn_s sL_wsX10_tell (by decide +kernel)
set_option maxRecDepth 20000 in
theorem gL_law_X10_tell : GoodIn wsL_law (wsV RL 122 RX10 yX10_tell wsX10_tell) := goodIn_app (goodIn_r _ [681, 682, 683, 2] (by decide +kernel) (by decide +kernel)) ggL_law_X10_tell
set_option maxRecDepth 20000 in
theorem ggL_law_X11_tell : GoodIn wsL_law wsX11_tell := goodIn_s sL_wsX11_tell (by decide +kernel)
set_option maxRecDepth 20000 in
theorem gL_law_X11_tell : GoodIn wsL_law (wsV RL 125 RX11 yX11_tell wsX11_tell) := goodIn_app (goodIn_r _ [721, 722, 723, 5] (by decide +kernel) (by decide +kernel)) ggL_law_X11_tell
set_option maxRecDepth 20000 in
theorem ggL_law_X10_greet : GoodIn wsL_law wsX10_greet := goodIn_s sL_wsX10_greet (by decide +kernel)
set_option maxRecDepth 20000 in
theorem gL_law_X10_greet : GoodIn wsL_law (wsV RL 126 RX10 yX10_greet wsX10_greet) := goodIn_app (goodIn_r _ [734, 735, 736, 2] (by decide +kernel) (by decide +kernel)) ggL_law_X10_greet
set_option maxRecDepth 20000 in
theorem ggL_law_X11_greet : GoodIn wsL_law wsX11_greet := goodIn_s sL_wsX11_greet (by decide +kernel)
set_option maxRecDepth 20000 in
theorem gL_law_X11_greet : GoodIn wsL_law (wsV RL 129 RX11 yX11_greet wsX11_greet) := goodIn_app (goodIn_r _ [754, 755, 756, 5] (by decide +kernel) (by decide +kernel)) ggL_law_X11_greet
set_option maxRecDepth 20000 in
theorem ggL_law_X10_as : GoodIn wsL_law wsX10_as := goodIn_s sL_wsX10_as (by decide +kernel)
set_option maxRecDepth 20000 in
theorem gL_law_X10_as : GoodIn wsL_law (wsV RL 130 RX10 yX10_as wsX10_as) := goodIn_app (goodIn_r _ [758, 759, 760, 2] (by decide +kernel) (by decide +kernel)) ggL_law_X10_as
set_option maxRecDepth 20000 in
theorem ggL_law_X11_as : GoodIn wsL_law wsX11_as := goodIn_s sL_wsX11_as (by decide +kernel)
set_option maxRecDepth 20000 in
theorem gL_law_X11_as : GoodIn wsL_law (wsV RL 133 RX11 yX11_as wsX11_as) := goodIn_app (goodIn_r _ [767, 768, 769, 5] (by decide +kernel) (by decide +kernel)) ggL_law_X11_as
set_option maxRecDepth 20000 in
theorem ggL_law_X10_trace : GoodIn wsL_law wsX10_trace := goodIn_s sL_wsX10_trace (by decide +kernel)
set_option maxRecDepth 20000 in
theorem gL_law_X10_trace : GoodIn wsL_law (wsV RL 134 RX10 yX10_trace wsX10_trace) := goodIn_app (goodIn_r _ [771, 772, 773, 2] (by decide +kernel) (by decide +kernel)) ggL_law_X10_trace
set_option maxRecDepth 20000 in
theorem ggL_law_X11_trace : GoodIn wsL_law wsX11_trace := goodIn_s sL_wsX11_trace (by decide +kernel)
set_option maxRecDepth 20000 in
theorem gL_law_X11_trace : GoodIn wsL_law (wsV RL 137 RX11 yX11_trace wsX11_trace) := goodIn_app (goodIn_r _ [776, 777, 778, 5] (by decide +kernel) (by decide +kernel)) ggL_law_X11_trace
set_option maxRecDepth 20000 in
theorem ggL_law_X10_fault : GoodIn wsL_law wsX10_fault := goodIn_s sL_wsX10_fault (by decide +kernel)
set_option maxRecDepth 20000 in
theorem gL_law_X10_fault : GoodIn wsL_law (wsV RL 138 RX10 yX10_fault wsX10_fault) := goodIn_app (goodIn_r _ [780, 781, 782, 2] (by decide +kernel) (by decide +kernel)) ggL_law_X10_fault
set_option maxRecDepth 20000 in
theorem ggL_law_X11_fault : GoodIn wsL_law wsX11_fault := goodIn_s sL_wsX11_fault (by decide +kernel)
set_option maxRecDepth 20000 in
theorem gL_law_X11_fault : GoodIn wsL_law (wsV RL 141 RX11 yX11_fault wsX11_fault) := goodIn_app (goodIn_r _ [784, 785, 786, 5] (by decide +kernel) (by decide +kernel)) ggL_law_X11_fault
set_option maxRecDepth 20000 in
theorem ggL_law_X10_told : GoodIn wsL_law wsX10_told := goodIn_s sL_wsX10_told (by decide +kernel)
set_option maxRecDepth 20000 in
theorem gL_law_X10_told : GoodIn wsL_law (wsV RL 142 RX10 yX10_told wsX10_told) := goodIn_app (goodIn_r _ [788, 789, 790, 2] (by decide +kernel) (by decide +kernel)) ggL_law_X10_told
set_option maxRecDepth 20000 in
theorem ggL_law_X11_told : GoodIn wsL_law wsX11_told := goodIn_s sL_wsX11_told (by decide +kernel)
set_option maxRecDepth 20000 in
theorem gL_law_X11_told : GoodIn wsL_law (wsV RL 145 RX11 yX11_told wsX11_told) := goodIn_app (goodIn_r _ [792, 793, 794, 5] (by decide +kernel) (by decide +kernel)) ggL_law_X11_told
def dOK (c : ByteArray) (q : Nat × Instr × Nat) : Bool := decide (decode c q.1 = .ok (q.2.1, q.2.2))
theorem dl_ok {c : ByteArray} {pc n : Nat} {ins : Instr} (h : dOK c (pc, ins, n) = true) : decode c pc = .ok (ins, n) := by
  unfold dOK at h
  exact of_decide_eq_true h
theorem dl_at {c : ByteArray} {L : List (Nat × Instr × Nat)} (h : L.all (dOK c) = true) (i : Nat) {pc n : Nat} {ins : Instr} (hi : L[i]? = some (pc, ins, n)) : decode c pc = .ok (ins, n) := dl_ok (List.all_eq_true.mp h _ (List.mem_of_getElem? hi))
def lL_0_50 : List (Nat × Instr × Nat) := [(0, .new 7, 3), (3, .dup, 1), (4, .invokespecial 9, 3), (7, .astore_n 1, 1), (8, .new 10, 3), (11, .dup, 1), (12, .invokespecial 12, 3), (15, .astore_n 2, 1), (16, .iconst 0, 1), (17, .istore_n 3, 1), (18, .iload_n 3, 1), (19, .aload_n 0, 1), (20, .arraylength, 1), (21, .bipush 6, 2), (23, .isub, 1), (24, .if_icmp .gt 1178, 3), (27, .aload_n 0, 1), (28, .iload_n 3, 1), (29, .iaload, 1), (30, .bipush 31, 2), (32, .iand, 1), (33, .tableswitch 1163 0 30 #[139, 192, 215, 258, 321, 384, 418, 441, 474, 507, 520, 553, 596, 639, 662, 695, 728, 751, 764, 787, 820, 863, 886, 929, 972, 1035, 1058, 1081, 1114, 1127, 1140], 139), (172, .aload_n 1, 1), (173, .aload_n 0, 1), (174, .iload_n 3, 1), (175, .iconst 1, 1), (176, .iadd, 1), (177, .iaload, 1), (178, .aload_n 0, 1), (179, .iload_n 3, 1), (180, .iconst 2, 1), (181, .iadd, 1), (182, .iaload, 1), (183, .aload_n 0, 1), (184, .iload_n 3, 1), (185, .iconst 3, 1), (186, .iadd, 1), (187, .iaload, 1), (188, .aload_n 0, 1), (189, .iload_n 3, 1), (190, .iconst 4, 1), (191, .iadd, 1), (192, .iaload, 1), (193, .invokevirtual 13, 3), (196, .pop, 1), (197, .aload_n 2, 1), (198, .aload_n 0, 1), (199, .iload_n 3, 1), (200, .iconst 1, 1), (201, .iadd, 1)]
theorem bL_0_50 : lL_0_50.all (dOK cL_law) = true := by decide +kernel
theorem dL_law_0 : decode cL_law 0 = .ok (.new 7, 3) := dl_at bL_0_50 0 rfl
theorem dL_law_3 : decode cL_law 3 = .ok (.dup, 1) := dl_at bL_0_50 1 rfl
theorem dL_law_4 : decode cL_law 4 = .ok (.invokespecial 9, 3) := dl_at bL_0_50 2 rfl
theorem dL_law_7 : decode cL_law 7 = .ok (.astore_n 1, 1) := dl_at bL_0_50 3 rfl
theorem dL_law_8 : decode cL_law 8 = .ok (.new 10, 3) := dl_at bL_0_50 4 rfl
theorem dL_law_11 : decode cL_law 11 = .ok (.dup, 1) := dl_at bL_0_50 5 rfl
theorem dL_law_12 : decode cL_law 12 = .ok (.invokespecial 12, 3) := dl_at bL_0_50 6 rfl
theorem dL_law_15 : decode cL_law 15 = .ok (.astore_n 2, 1) := dl_at bL_0_50 7 rfl
theorem dL_law_16 : decode cL_law 16 = .ok (.iconst 0, 1) := dl_at bL_0_50 8 rfl
theorem dL_law_17 : decode cL_law 17 = .ok (.istore_n 3, 1) := dl_at bL_0_50 9 rfl
theorem dL_law_18 : decode cL_law 18 = .ok (.iload_n 3, 1) := dl_at bL_0_50 10 rfl
theorem dL_law_19 : decode cL_law 19 = .ok (.aload_n 0, 1) := dl_at bL_0_50 11 rfl
theorem dL_law_20 : decode cL_law 20 = .ok (.arraylength, 1) := dl_at bL_0_50 12 rfl
theorem dL_law_21 : decode cL_law 21 = .ok (.bipush 6, 2) := dl_at bL_0_50 13 rfl
theorem dL_law_23 : decode cL_law 23 = .ok (.isub, 1) := dl_at bL_0_50 14 rfl
theorem dL_law_24 : decode cL_law 24 = .ok (.if_icmp .gt 1178, 3) := dl_at bL_0_50 15 rfl
theorem dL_law_27 : decode cL_law 27 = .ok (.aload_n 0, 1) := dl_at bL_0_50 16 rfl
theorem dL_law_28 : decode cL_law 28 = .ok (.iload_n 3, 1) := dl_at bL_0_50 17 rfl
theorem dL_law_29 : decode cL_law 29 = .ok (.iaload, 1) := dl_at bL_0_50 18 rfl
theorem dL_law_30 : decode cL_law 30 = .ok (.bipush 31, 2) := dl_at bL_0_50 19 rfl
theorem dL_law_32 : decode cL_law 32 = .ok (.iand, 1) := dl_at bL_0_50 20 rfl
theorem dL_law_33 : decode cL_law 33 = .ok (.tableswitch 1163 0 30 #[139, 192, 215, 258, 321, 384, 418, 441, 474, 507, 520, 553, 596, 639, 662, 695, 728, 751, 764, 787, 820, 863, 886, 929, 972, 1035, 1058, 1081, 1114, 1127, 1140], 139) := dl_at bL_0_50 21 rfl
theorem dL_law_172 : decode cL_law 172 = .ok (.aload_n 1, 1) := dl_at bL_0_50 22 rfl
theorem dL_law_173 : decode cL_law 173 = .ok (.aload_n 0, 1) := dl_at bL_0_50 23 rfl
theorem dL_law_174 : decode cL_law 174 = .ok (.iload_n 3, 1) := dl_at bL_0_50 24 rfl
theorem dL_law_175 : decode cL_law 175 = .ok (.iconst 1, 1) := dl_at bL_0_50 25 rfl
theorem dL_law_176 : decode cL_law 176 = .ok (.iadd, 1) := dl_at bL_0_50 26 rfl
theorem dL_law_177 : decode cL_law 177 = .ok (.iaload, 1) := dl_at bL_0_50 27 rfl
theorem dL_law_178 : decode cL_law 178 = .ok (.aload_n 0, 1) := dl_at bL_0_50 28 rfl
theorem dL_law_179 : decode cL_law 179 = .ok (.iload_n 3, 1) := dl_at bL_0_50 29 rfl
theorem dL_law_180 : decode cL_law 180 = .ok (.iconst 2, 1) := dl_at bL_0_50 30 rfl
theorem dL_law_181 : decode cL_law 181 = .ok (.iadd, 1) := dl_at bL_0_50 31 rfl
theorem dL_law_182 : decode cL_law 182 = .ok (.iaload, 1) := dl_at bL_0_50 32 rfl
theorem dL_law_183 : decode cL_law 183 = .ok (.aload_n 0, 1) := dl_at bL_0_50 33 rfl
theorem dL_law_184 : decode cL_law 184 = .ok (.iload_n 3, 1) := dl_at bL_0_50 34 rfl
theorem dL_law_185 : decode cL_law 185 = .ok (.iconst 3, 1) := dl_at bL_0_50 35 rfl
theorem dL_law_186 : decode cL_law 186 = .ok (.iadd, 1) := dl_at bL_0_50 36 rfl
theorem dL_law_187 : decode cL_law 187 = .ok (.iaload, 1) := dl_at bL_0_50 37 rfl
theorem dL_law_188 : decode cL_law 188 = .ok (.aload_n 0, 1) := dl_at bL_0_50 38 rfl
theorem dL_law_189 : decode cL_law 189 = .ok (.iload_n 3, 1) := dl_at bL_0_50 39 rfl
theorem dL_law_190 : decode cL_law 190 = .ok (.iconst 4, 1) := dl_at bL_0_50 40 rfl
theorem dL_law_191 : decode cL_law 191 = .ok (.iadd, 1) := dl_at bL_0_50 41 rfl
theorem dL_law_192 : decode cL_law 192 = .ok (.iaload, 1) := dl_at bL_0_50 42 rfl
theorem dL_law_193 : decode cL_law 193 = .ok (.invokevirtual 13, 3) := dl_at bL_0_50 43 rfl
theorem dL_law_196 : decode cL_law 196 = .ok (.pop, 1) := dl_at bL_0_50 44 rfl
theorem dL_law_197 : decode cL_law 197 = .ok (.aload_n 2, 1) := dl_at bL_0_50 45 rfl
theorem dL_law_198 : decode cL_law 198 = .ok (.aload_n 0, 1) := dl_at bL_0_50 46 rfl
theorem dL_law_199 : decode cL_law 199 = .ok (.iload_n 3, 1) := dl_at bL_0_50 47 rfl
theorem dL_law_200 : decode cL_law 200 = .ok (.iconst 1, 1) := dl_at bL_0_50 48 rfl
theorem dL_law_201 : decode cL_law 201 = .ok (.iadd, 1) := dl_at bL_0_50 49 rfl
def lL_202_50 : List (Nat × Instr × Nat) := [(202, .iaload, 1), (203, .aload_n 0, 1), (204, .iload_n 3, 1), (205, .iconst 2, 1), (206, .iadd, 1), (207, .iaload, 1), (208, .aload_n 0, 1), (209, .iload_n 3, 1), (210, .iconst 3, 1), (211, .iadd, 1), (212, .iaload, 1), (213, .aload_n 0, 1), (214, .iload_n 3, 1), (215, .iconst 4, 1), (216, .iadd, 1), (217, .iaload, 1), (218, .invokevirtual 17, 3), (221, .pop, 1), (222, .goto 974, 3), (225, .aload_n 1, 1), (226, .aload_n 0, 1), (227, .iload_n 3, 1), (228, .iconst 1, 1), (229, .iadd, 1), (230, .iaload, 1), (231, .invokevirtual 18, 3), (234, .pop, 1), (235, .aload_n 2, 1), (236, .aload_n 0, 1), (237, .iload_n 3, 1), (238, .iconst 1, 1), (239, .iadd, 1), (240, .iaload, 1), (241, .invokevirtual 22, 3), (244, .pop, 1), (245, .goto 951, 3), (248, .aload_n 1, 1), (249, .aload_n 0, 1), (250, .iload_n 3, 1), (251, .iconst 1, 1), (252, .iadd, 1), (253, .iaload, 1), (254, .aload_n 0, 1), (255, .iload_n 3, 1), (256, .iconst 2, 1), (257, .iadd, 1), (258, .iaload, 1), (259, .aload_n 0, 1), (260, .iload_n 3, 1), (261, .iconst 3, 1)]
theorem bL_202_50 : lL_202_50.all (dOK cL_law) = true := by decide +kernel
theorem dL_law_202 : decode cL_law 202 = .ok (.iaload, 1) := dl_at bL_202_50 0 rfl
theorem dL_law_203 : decode cL_law 203 = .ok (.aload_n 0, 1) := dl_at bL_202_50 1 rfl
theorem dL_law_204 : decode cL_law 204 = .ok (.iload_n 3, 1) := dl_at bL_202_50 2 rfl
theorem dL_law_205 : decode cL_law 205 = .ok (.iconst 2, 1) := dl_at bL_202_50 3 rfl
theorem dL_law_206 : decode cL_law 206 = .ok (.iadd, 1) := dl_at bL_202_50 4 rfl
theorem dL_law_207 : decode cL_law 207 = .ok (.iaload, 1) := dl_at bL_202_50 5 rfl
theorem dL_law_208 : decode cL_law 208 = .ok (.aload_n 0, 1) := dl_at bL_202_50 6 rfl
theorem dL_law_209 : decode cL_law 209 = .ok (.iload_n 3, 1) := dl_at bL_202_50 7 rfl
theorem dL_law_210 : decode cL_law 210 = .ok (.iconst 3, 1) := dl_at bL_202_50 8 rfl
theorem dL_law_211 : decode cL_law 211 = .ok (.iadd, 1) := dl_at bL_202_50 9 rfl
theorem dL_law_212 : decode cL_law 212 = .ok (.iaload, 1) := dl_at bL_202_50 10 rfl
theorem dL_law_213 : decode cL_law 213 = .ok (.aload_n 0, 1) := dl_at bL_202_50 11 rfl
theorem dL_law_214 : decode cL_law 214 = .ok (.iload_n 3, 1) := dl_at bL_202_50 12 rfl
theorem dL_law_215 : decode cL_law 215 = .ok (.iconst 4, 1) := dl_at bL_202_50 13 rfl
theorem dL_law_216 : decode cL_law 216 = .ok (.iadd, 1) := dl_at bL_202_50 14 rfl
theorem dL_law_217 : decode cL_law 217 = .ok (.iaload, 1) := dl_at bL_202_50 15 rfl
theorem dL_law_218 : decode cL_law 218 = .ok (.invokevirtual 17, 3) := dl_at bL_202_50 16 rfl
theorem dL_law_221 : decode cL_law 221 = .ok (.pop, 1) := dl_at bL_202_50 17 rfl
theorem dL_law_222 : decode cL_law 222 = .ok (.goto 974, 3) := dl_at bL_202_50 18 rfl
theorem dL_law_225 : decode cL_law 225 = .ok (.aload_n 1, 1) := dl_at bL_202_50 19 rfl
theorem dL_law_226 : decode cL_law 226 = .ok (.aload_n 0, 1) := dl_at bL_202_50 20 rfl
theorem dL_law_227 : decode cL_law 227 = .ok (.iload_n 3, 1) := dl_at bL_202_50 21 rfl
theorem dL_law_228 : decode cL_law 228 = .ok (.iconst 1, 1) := dl_at bL_202_50 22 rfl
theorem dL_law_229 : decode cL_law 229 = .ok (.iadd, 1) := dl_at bL_202_50 23 rfl
theorem dL_law_230 : decode cL_law 230 = .ok (.iaload, 1) := dl_at bL_202_50 24 rfl
theorem dL_law_231 : decode cL_law 231 = .ok (.invokevirtual 18, 3) := dl_at bL_202_50 25 rfl
theorem dL_law_234 : decode cL_law 234 = .ok (.pop, 1) := dl_at bL_202_50 26 rfl
theorem dL_law_235 : decode cL_law 235 = .ok (.aload_n 2, 1) := dl_at bL_202_50 27 rfl
theorem dL_law_236 : decode cL_law 236 = .ok (.aload_n 0, 1) := dl_at bL_202_50 28 rfl
theorem dL_law_237 : decode cL_law 237 = .ok (.iload_n 3, 1) := dl_at bL_202_50 29 rfl
theorem dL_law_238 : decode cL_law 238 = .ok (.iconst 1, 1) := dl_at bL_202_50 30 rfl
theorem dL_law_239 : decode cL_law 239 = .ok (.iadd, 1) := dl_at bL_202_50 31 rfl
theorem dL_law_240 : decode cL_law 240 = .ok (.iaload, 1) := dl_at bL_202_50 32 rfl
theorem dL_law_241 : decode cL_law 241 = .ok (.invokevirtual 22, 3) := dl_at bL_202_50 33 rfl
theorem dL_law_244 : decode cL_law 244 = .ok (.pop, 1) := dl_at bL_202_50 34 rfl
theorem dL_law_245 : decode cL_law 245 = .ok (.goto 951, 3) := dl_at bL_202_50 35 rfl
theorem dL_law_248 : decode cL_law 248 = .ok (.aload_n 1, 1) := dl_at bL_202_50 36 rfl
theorem dL_law_249 : decode cL_law 249 = .ok (.aload_n 0, 1) := dl_at bL_202_50 37 rfl
theorem dL_law_250 : decode cL_law 250 = .ok (.iload_n 3, 1) := dl_at bL_202_50 38 rfl
theorem dL_law_251 : decode cL_law 251 = .ok (.iconst 1, 1) := dl_at bL_202_50 39 rfl
theorem dL_law_252 : decode cL_law 252 = .ok (.iadd, 1) := dl_at bL_202_50 40 rfl
theorem dL_law_253 : decode cL_law 253 = .ok (.iaload, 1) := dl_at bL_202_50 41 rfl
theorem dL_law_254 : decode cL_law 254 = .ok (.aload_n 0, 1) := dl_at bL_202_50 42 rfl
theorem dL_law_255 : decode cL_law 255 = .ok (.iload_n 3, 1) := dl_at bL_202_50 43 rfl
theorem dL_law_256 : decode cL_law 256 = .ok (.iconst 2, 1) := dl_at bL_202_50 44 rfl
theorem dL_law_257 : decode cL_law 257 = .ok (.iadd, 1) := dl_at bL_202_50 45 rfl
theorem dL_law_258 : decode cL_law 258 = .ok (.iaload, 1) := dl_at bL_202_50 46 rfl
theorem dL_law_259 : decode cL_law 259 = .ok (.aload_n 0, 1) := dl_at bL_202_50 47 rfl
theorem dL_law_260 : decode cL_law 260 = .ok (.iload_n 3, 1) := dl_at bL_202_50 48 rfl
theorem dL_law_261 : decode cL_law 261 = .ok (.iconst 3, 1) := dl_at bL_202_50 49 rfl
def lL_262_50 : List (Nat × Instr × Nat) := [(262, .iadd, 1), (263, .iaload, 1), (264, .invokevirtual 23, 3), (267, .pop, 1), (268, .aload_n 2, 1), (269, .aload_n 0, 1), (270, .iload_n 3, 1), (271, .iconst 1, 1), (272, .iadd, 1), (273, .iaload, 1), (274, .aload_n 0, 1), (275, .iload_n 3, 1), (276, .iconst 2, 1), (277, .iadd, 1), (278, .iaload, 1), (279, .aload_n 0, 1), (280, .iload_n 3, 1), (281, .iconst 3, 1), (282, .iadd, 1), (283, .iaload, 1), (284, .invokevirtual 27, 3), (287, .pop, 1), (288, .goto 908, 3), (291, .aload_n 1, 1), (292, .aload_n 0, 1), (293, .iload_n 3, 1), (294, .iconst 1, 1), (295, .iadd, 1), (296, .iaload, 1), (297, .aload_n 0, 1), (298, .iload_n 3, 1), (299, .iconst 2, 1), (300, .iadd, 1), (301, .iaload, 1), (302, .aload_n 0, 1), (303, .iload_n 3, 1), (304, .iconst 3, 1), (305, .iadd, 1), (306, .iaload, 1), (307, .aload_n 0, 1), (308, .iload_n 3, 1), (309, .iconst 4, 1), (310, .iadd, 1), (311, .iaload, 1), (312, .aload_n 0, 1), (313, .iload_n 3, 1), (314, .iconst 5, 1), (315, .iadd, 1), (316, .iaload, 1), (317, .invokevirtual 28, 3)]
theorem bL_262_50 : lL_262_50.all (dOK cL_law) = true := by decide +kernel
theorem dL_law_262 : decode cL_law 262 = .ok (.iadd, 1) := dl_at bL_262_50 0 rfl
theorem dL_law_263 : decode cL_law 263 = .ok (.iaload, 1) := dl_at bL_262_50 1 rfl
theorem dL_law_264 : decode cL_law 264 = .ok (.invokevirtual 23, 3) := dl_at bL_262_50 2 rfl
theorem dL_law_267 : decode cL_law 267 = .ok (.pop, 1) := dl_at bL_262_50 3 rfl
theorem dL_law_268 : decode cL_law 268 = .ok (.aload_n 2, 1) := dl_at bL_262_50 4 rfl
theorem dL_law_269 : decode cL_law 269 = .ok (.aload_n 0, 1) := dl_at bL_262_50 5 rfl
theorem dL_law_270 : decode cL_law 270 = .ok (.iload_n 3, 1) := dl_at bL_262_50 6 rfl
theorem dL_law_271 : decode cL_law 271 = .ok (.iconst 1, 1) := dl_at bL_262_50 7 rfl
theorem dL_law_272 : decode cL_law 272 = .ok (.iadd, 1) := dl_at bL_262_50 8 rfl
theorem dL_law_273 : decode cL_law 273 = .ok (.iaload, 1) := dl_at bL_262_50 9 rfl
theorem dL_law_274 : decode cL_law 274 = .ok (.aload_n 0, 1) := dl_at bL_262_50 10 rfl
theorem dL_law_275 : decode cL_law 275 = .ok (.iload_n 3, 1) := dl_at bL_262_50 11 rfl
theorem dL_law_276 : decode cL_law 276 = .ok (.iconst 2, 1) := dl_at bL_262_50 12 rfl
theorem dL_law_277 : decode cL_law 277 = .ok (.iadd, 1) := dl_at bL_262_50 13 rfl
theorem dL_law_278 : decode cL_law 278 = .ok (.iaload, 1) := dl_at bL_262_50 14 rfl
theorem dL_law_279 : decode cL_law 279 = .ok (.aload_n 0, 1) := dl_at bL_262_50 15 rfl
theorem dL_law_280 : decode cL_law 280 = .ok (.iload_n 3, 1) := dl_at bL_262_50 16 rfl
theorem dL_law_281 : decode cL_law 281 = .ok (.iconst 3, 1) := dl_at bL_262_50 17 rfl
theorem dL_law_282 : decode cL_law 282 = .ok (.iadd, 1) := dl_at bL_262_50 18 rfl
theorem dL_law_283 : decode cL_law 283 = .ok (.iaload, 1) := dl_at bL_262_50 19 rfl
theorem dL_law_284 : decode cL_law 284 = .ok (.invokevirtual 27, 3) := dl_at bL_262_50 20 rfl
theorem dL_law_287 : decode cL_law 287 = .ok (.pop, 1) := dl_at bL_262_50 21 rfl
theorem dL_law_288 : decode cL_law 288 = .ok (.goto 908, 3) := dl_at bL_262_50 22 rfl
theorem dL_law_291 : decode cL_law 291 = .ok (.aload_n 1, 1) := dl_at bL_262_50 23 rfl
theorem dL_law_292 : decode cL_law 292 = .ok (.aload_n 0, 1) := dl_at bL_262_50 24 rfl
theorem dL_law_293 : decode cL_law 293 = .ok (.iload_n 3, 1) := dl_at bL_262_50 25 rfl
theorem dL_law_294 : decode cL_law 294 = .ok (.iconst 1, 1) := dl_at bL_262_50 26 rfl
theorem dL_law_295 : decode cL_law 295 = .ok (.iadd, 1) := dl_at bL_262_50 27 rfl
theorem dL_law_296 : decode cL_law 296 = .ok (.iaload, 1) := dl_at bL_262_50 28 rfl
theorem dL_law_297 : decode cL_law 297 = .ok (.aload_n 0, 1) := dl_at bL_262_50 29 rfl
theorem dL_law_298 : decode cL_law 298 = .ok (.iload_n 3, 1) := dl_at bL_262_50 30 rfl
theorem dL_law_299 : decode cL_law 299 = .ok (.iconst 2, 1) := dl_at bL_262_50 31 rfl
theorem dL_law_300 : decode cL_law 300 = .ok (.iadd, 1) := dl_at bL_262_50 32 rfl
theorem dL_law_301 : decode cL_law 301 = .ok (.iaload, 1) := dl_at bL_262_50 33 rfl
theorem dL_law_302 : decode cL_law 302 = .ok (.aload_n 0, 1) := dl_at bL_262_50 34 rfl
theorem dL_law_303 : decode cL_law 303 = .ok (.iload_n 3, 1) := dl_at bL_262_50 35 rfl
theorem dL_law_304 : decode cL_law 304 = .ok (.iconst 3, 1) := dl_at bL_262_50 36 rfl
theorem dL_law_305 : decode cL_law 305 = .ok (.iadd, 1) := dl_at bL_262_50 37 rfl
theorem dL_law_306 : decode cL_law 306 = .ok (.iaload, 1) := dl_at bL_262_50 38 rfl
theorem dL_law_307 : decode cL_law 307 = .ok (.aload_n 0, 1) := dl_at bL_262_50 39 rfl
theorem dL_law_308 : decode cL_law 308 = .ok (.iload_n 3, 1) := dl_at bL_262_50 40 rfl
theorem dL_law_309 : decode cL_law 309 = .ok (.iconst 4, 1) := dl_at bL_262_50 41 rfl
theorem dL_law_310 : decode cL_law 310 = .ok (.iadd, 1) := dl_at bL_262_50 42 rfl
theorem dL_law_311 : decode cL_law 311 = .ok (.iaload, 1) := dl_at bL_262_50 43 rfl
theorem dL_law_312 : decode cL_law 312 = .ok (.aload_n 0, 1) := dl_at bL_262_50 44 rfl
theorem dL_law_313 : decode cL_law 313 = .ok (.iload_n 3, 1) := dl_at bL_262_50 45 rfl
theorem dL_law_314 : decode cL_law 314 = .ok (.iconst 5, 1) := dl_at bL_262_50 46 rfl
theorem dL_law_315 : decode cL_law 315 = .ok (.iadd, 1) := dl_at bL_262_50 47 rfl
theorem dL_law_316 : decode cL_law 316 = .ok (.iaload, 1) := dl_at bL_262_50 48 rfl
theorem dL_law_317 : decode cL_law 317 = .ok (.invokevirtual 28, 3) := dl_at bL_262_50 49 rfl
def lL_320_50 : List (Nat × Instr × Nat) := [(320, .pop, 1), (321, .aload_n 2, 1), (322, .aload_n 0, 1), (323, .iload_n 3, 1), (324, .iconst 1, 1), (325, .iadd, 1), (326, .iaload, 1), (327, .aload_n 0, 1), (328, .iload_n 3, 1), (329, .iconst 2, 1), (330, .iadd, 1), (331, .iaload, 1), (332, .aload_n 0, 1), (333, .iload_n 3, 1), (334, .iconst 3, 1), (335, .iadd, 1), (336, .iaload, 1), (337, .aload_n 0, 1), (338, .iload_n 3, 1), (339, .iconst 4, 1), (340, .iadd, 1), (341, .iaload, 1), (342, .aload_n 0, 1), (343, .iload_n 3, 1), (344, .iconst 5, 1), (345, .iadd, 1), (346, .iaload, 1), (347, .invokevirtual 32, 3), (350, .pop, 1), (351, .goto 845, 3), (354, .aload_n 1, 1), (355, .aload_n 0, 1), (356, .iload_n 3, 1), (357, .iconst 1, 1), (358, .iadd, 1), (359, .iaload, 1), (360, .aload_n 0, 1), (361, .iload_n 3, 1), (362, .iconst 2, 1), (363, .iadd, 1), (364, .iaload, 1), (365, .aload_n 0, 1), (366, .iload_n 3, 1), (367, .iconst 3, 1), (368, .iadd, 1), (369, .iaload, 1), (370, .aload_n 0, 1), (371, .iload_n 3, 1), (372, .iconst 4, 1), (373, .iadd, 1)]
theorem bL_320_50 : lL_320_50.all (dOK cL_law) = true := by decide +kernel
theorem dL_law_320 : decode cL_law 320 = .ok (.pop, 1) := dl_at bL_320_50 0 rfl
theorem dL_law_321 : decode cL_law 321 = .ok (.aload_n 2, 1) := dl_at bL_320_50 1 rfl
theorem dL_law_322 : decode cL_law 322 = .ok (.aload_n 0, 1) := dl_at bL_320_50 2 rfl
theorem dL_law_323 : decode cL_law 323 = .ok (.iload_n 3, 1) := dl_at bL_320_50 3 rfl
theorem dL_law_324 : decode cL_law 324 = .ok (.iconst 1, 1) := dl_at bL_320_50 4 rfl
theorem dL_law_325 : decode cL_law 325 = .ok (.iadd, 1) := dl_at bL_320_50 5 rfl
theorem dL_law_326 : decode cL_law 326 = .ok (.iaload, 1) := dl_at bL_320_50 6 rfl
theorem dL_law_327 : decode cL_law 327 = .ok (.aload_n 0, 1) := dl_at bL_320_50 7 rfl
theorem dL_law_328 : decode cL_law 328 = .ok (.iload_n 3, 1) := dl_at bL_320_50 8 rfl
theorem dL_law_329 : decode cL_law 329 = .ok (.iconst 2, 1) := dl_at bL_320_50 9 rfl
theorem dL_law_330 : decode cL_law 330 = .ok (.iadd, 1) := dl_at bL_320_50 10 rfl
theorem dL_law_331 : decode cL_law 331 = .ok (.iaload, 1) := dl_at bL_320_50 11 rfl
theorem dL_law_332 : decode cL_law 332 = .ok (.aload_n 0, 1) := dl_at bL_320_50 12 rfl
theorem dL_law_333 : decode cL_law 333 = .ok (.iload_n 3, 1) := dl_at bL_320_50 13 rfl
theorem dL_law_334 : decode cL_law 334 = .ok (.iconst 3, 1) := dl_at bL_320_50 14 rfl
theorem dL_law_335 : decode cL_law 335 = .ok (.iadd, 1) := dl_at bL_320_50 15 rfl
theorem dL_law_336 : decode cL_law 336 = .ok (.iaload, 1) := dl_at bL_320_50 16 rfl
theorem dL_law_337 : decode cL_law 337 = .ok (.aload_n 0, 1) := dl_at bL_320_50 17 rfl
theorem dL_law_338 : decode cL_law 338 = .ok (.iload_n 3, 1) := dl_at bL_320_50 18 rfl
theorem dL_law_339 : decode cL_law 339 = .ok (.iconst 4, 1) := dl_at bL_320_50 19 rfl
theorem dL_law_340 : decode cL_law 340 = .ok (.iadd, 1) := dl_at bL_320_50 20 rfl
theorem dL_law_341 : decode cL_law 341 = .ok (.iaload, 1) := dl_at bL_320_50 21 rfl
theorem dL_law_342 : decode cL_law 342 = .ok (.aload_n 0, 1) := dl_at bL_320_50 22 rfl
theorem dL_law_343 : decode cL_law 343 = .ok (.iload_n 3, 1) := dl_at bL_320_50 23 rfl
theorem dL_law_344 : decode cL_law 344 = .ok (.iconst 5, 1) := dl_at bL_320_50 24 rfl
theorem dL_law_345 : decode cL_law 345 = .ok (.iadd, 1) := dl_at bL_320_50 25 rfl
theorem dL_law_346 : decode cL_law 346 = .ok (.iaload, 1) := dl_at bL_320_50 26 rfl
theorem dL_law_347 : decode cL_law 347 = .ok (.invokevirtual 32, 3) := dl_at bL_320_50 27 rfl
theorem dL_law_350 : decode cL_law 350 = .ok (.pop, 1) := dl_at bL_320_50 28 rfl
theorem dL_law_351 : decode cL_law 351 = .ok (.goto 845, 3) := dl_at bL_320_50 29 rfl
theorem dL_law_354 : decode cL_law 354 = .ok (.aload_n 1, 1) := dl_at bL_320_50 30 rfl
theorem dL_law_355 : decode cL_law 355 = .ok (.aload_n 0, 1) := dl_at bL_320_50 31 rfl
theorem dL_law_356 : decode cL_law 356 = .ok (.iload_n 3, 1) := dl_at bL_320_50 32 rfl
theorem dL_law_357 : decode cL_law 357 = .ok (.iconst 1, 1) := dl_at bL_320_50 33 rfl
theorem dL_law_358 : decode cL_law 358 = .ok (.iadd, 1) := dl_at bL_320_50 34 rfl
theorem dL_law_359 : decode cL_law 359 = .ok (.iaload, 1) := dl_at bL_320_50 35 rfl
theorem dL_law_360 : decode cL_law 360 = .ok (.aload_n 0, 1) := dl_at bL_320_50 36 rfl
theorem dL_law_361 : decode cL_law 361 = .ok (.iload_n 3, 1) := dl_at bL_320_50 37 rfl
theorem dL_law_362 : decode cL_law 362 = .ok (.iconst 2, 1) := dl_at bL_320_50 38 rfl
theorem dL_law_363 : decode cL_law 363 = .ok (.iadd, 1) := dl_at bL_320_50 39 rfl
theorem dL_law_364 : decode cL_law 364 = .ok (.iaload, 1) := dl_at bL_320_50 40 rfl
theorem dL_law_365 : decode cL_law 365 = .ok (.aload_n 0, 1) := dl_at bL_320_50 41 rfl
theorem dL_law_366 : decode cL_law 366 = .ok (.iload_n 3, 1) := dl_at bL_320_50 42 rfl
theorem dL_law_367 : decode cL_law 367 = .ok (.iconst 3, 1) := dl_at bL_320_50 43 rfl
theorem dL_law_368 : decode cL_law 368 = .ok (.iadd, 1) := dl_at bL_320_50 44 rfl
theorem dL_law_369 : decode cL_law 369 = .ok (.iaload, 1) := dl_at bL_320_50 45 rfl
theorem dL_law_370 : decode cL_law 370 = .ok (.aload_n 0, 1) := dl_at bL_320_50 46 rfl
theorem dL_law_371 : decode cL_law 371 = .ok (.iload_n 3, 1) := dl_at bL_320_50 47 rfl
theorem dL_law_372 : decode cL_law 372 = .ok (.iconst 4, 1) := dl_at bL_320_50 48 rfl
theorem dL_law_373 : decode cL_law 373 = .ok (.iadd, 1) := dl_at bL_320_50 49 rfl
def lL_374_50 : List (Nat × Instr × Nat) := [(374, .iaload, 1), (375, .aload_n 0, 1), (376, .iload_n 3, 1), (377, .iconst 5, 1), (378, .iadd, 1), (379, .iaload, 1), (380, .invokevirtual 33, 3), (383, .pop, 1), (384, .aload_n 2, 1), (385, .aload_n 0, 1), (386, .iload_n 3, 1), (387, .iconst 1, 1), (388, .iadd, 1), (389, .iaload, 1), (390, .aload_n 0, 1), (391, .iload_n 3, 1), (392, .iconst 2, 1), (393, .iadd, 1), (394, .iaload, 1), (395, .aload_n 0, 1), (396, .iload_n 3, 1), (397, .iconst 3, 1), (398, .iadd, 1), (399, .iaload, 1), (400, .aload_n 0, 1), (401, .iload_n 3, 1), (402, .iconst 4, 1), (403, .iadd, 1), (404, .iaload, 1), (405, .aload_n 0, 1), (406, .iload_n 3, 1), (407, .iconst 5, 1), (408, .iadd, 1), (409, .iaload, 1), (410, .invokevirtual 36, 3), (413, .pop, 1), (414, .goto 782, 3), (417, .aload_n 1, 1), (418, .aload_n 0, 1), (419, .iload_n 3, 1), (420, .iconst 1, 1), (421, .iadd, 1), (422, .iaload, 1), (423, .aload_n 0, 1), (424, .iload_n 3, 1), (425, .iconst 2, 1), (426, .iadd, 1), (427, .iaload, 1), (428, .invokevirtual 37, 3), (431, .aload_n 2, 1)]
theorem bL_374_50 : lL_374_50.all (dOK cL_law) = true := by decide +kernel
theorem dL_law_374 : decode cL_law 374 = .ok (.iaload, 1) := dl_at bL_374_50 0 rfl
theorem dL_law_375 : decode cL_law 375 = .ok (.aload_n 0, 1) := dl_at bL_374_50 1 rfl
theorem dL_law_376 : decode cL_law 376 = .ok (.iload_n 3, 1) := dl_at bL_374_50 2 rfl
theorem dL_law_377 : decode cL_law 377 = .ok (.iconst 5, 1) := dl_at bL_374_50 3 rfl
theorem dL_law_378 : decode cL_law 378 = .ok (.iadd, 1) := dl_at bL_374_50 4 rfl
theorem dL_law_379 : decode cL_law 379 = .ok (.iaload, 1) := dl_at bL_374_50 5 rfl
theorem dL_law_380 : decode cL_law 380 = .ok (.invokevirtual 33, 3) := dl_at bL_374_50 6 rfl
theorem dL_law_383 : decode cL_law 383 = .ok (.pop, 1) := dl_at bL_374_50 7 rfl
theorem dL_law_384 : decode cL_law 384 = .ok (.aload_n 2, 1) := dl_at bL_374_50 8 rfl
theorem dL_law_385 : decode cL_law 385 = .ok (.aload_n 0, 1) := dl_at bL_374_50 9 rfl
theorem dL_law_386 : decode cL_law 386 = .ok (.iload_n 3, 1) := dl_at bL_374_50 10 rfl
theorem dL_law_387 : decode cL_law 387 = .ok (.iconst 1, 1) := dl_at bL_374_50 11 rfl
theorem dL_law_388 : decode cL_law 388 = .ok (.iadd, 1) := dl_at bL_374_50 12 rfl
theorem dL_law_389 : decode cL_law 389 = .ok (.iaload, 1) := dl_at bL_374_50 13 rfl
theorem dL_law_390 : decode cL_law 390 = .ok (.aload_n 0, 1) := dl_at bL_374_50 14 rfl
theorem dL_law_391 : decode cL_law 391 = .ok (.iload_n 3, 1) := dl_at bL_374_50 15 rfl
theorem dL_law_392 : decode cL_law 392 = .ok (.iconst 2, 1) := dl_at bL_374_50 16 rfl
theorem dL_law_393 : decode cL_law 393 = .ok (.iadd, 1) := dl_at bL_374_50 17 rfl
theorem dL_law_394 : decode cL_law 394 = .ok (.iaload, 1) := dl_at bL_374_50 18 rfl
theorem dL_law_395 : decode cL_law 395 = .ok (.aload_n 0, 1) := dl_at bL_374_50 19 rfl
theorem dL_law_396 : decode cL_law 396 = .ok (.iload_n 3, 1) := dl_at bL_374_50 20 rfl
theorem dL_law_397 : decode cL_law 397 = .ok (.iconst 3, 1) := dl_at bL_374_50 21 rfl
theorem dL_law_398 : decode cL_law 398 = .ok (.iadd, 1) := dl_at bL_374_50 22 rfl
theorem dL_law_399 : decode cL_law 399 = .ok (.iaload, 1) := dl_at bL_374_50 23 rfl
theorem dL_law_400 : decode cL_law 400 = .ok (.aload_n 0, 1) := dl_at bL_374_50 24 rfl
theorem dL_law_401 : decode cL_law 401 = .ok (.iload_n 3, 1) := dl_at bL_374_50 25 rfl
theorem dL_law_402 : decode cL_law 402 = .ok (.iconst 4, 1) := dl_at bL_374_50 26 rfl
theorem dL_law_403 : decode cL_law 403 = .ok (.iadd, 1) := dl_at bL_374_50 27 rfl
theorem dL_law_404 : decode cL_law 404 = .ok (.iaload, 1) := dl_at bL_374_50 28 rfl
theorem dL_law_405 : decode cL_law 405 = .ok (.aload_n 0, 1) := dl_at bL_374_50 29 rfl
theorem dL_law_406 : decode cL_law 406 = .ok (.iload_n 3, 1) := dl_at bL_374_50 30 rfl
theorem dL_law_407 : decode cL_law 407 = .ok (.iconst 5, 1) := dl_at bL_374_50 31 rfl
theorem dL_law_408 : decode cL_law 408 = .ok (.iadd, 1) := dl_at bL_374_50 32 rfl
theorem dL_law_409 : decode cL_law 409 = .ok (.iaload, 1) := dl_at bL_374_50 33 rfl
theorem dL_law_410 : decode cL_law 410 = .ok (.invokevirtual 36, 3) := dl_at bL_374_50 34 rfl
theorem dL_law_413 : decode cL_law 413 = .ok (.pop, 1) := dl_at bL_374_50 35 rfl
theorem dL_law_414 : decode cL_law 414 = .ok (.goto 782, 3) := dl_at bL_374_50 36 rfl
theorem dL_law_417 : decode cL_law 417 = .ok (.aload_n 1, 1) := dl_at bL_374_50 37 rfl
theorem dL_law_418 : decode cL_law 418 = .ok (.aload_n 0, 1) := dl_at bL_374_50 38 rfl
theorem dL_law_419 : decode cL_law 419 = .ok (.iload_n 3, 1) := dl_at bL_374_50 39 rfl
theorem dL_law_420 : decode cL_law 420 = .ok (.iconst 1, 1) := dl_at bL_374_50 40 rfl
theorem dL_law_421 : decode cL_law 421 = .ok (.iadd, 1) := dl_at bL_374_50 41 rfl
theorem dL_law_422 : decode cL_law 422 = .ok (.iaload, 1) := dl_at bL_374_50 42 rfl
theorem dL_law_423 : decode cL_law 423 = .ok (.aload_n 0, 1) := dl_at bL_374_50 43 rfl
theorem dL_law_424 : decode cL_law 424 = .ok (.iload_n 3, 1) := dl_at bL_374_50 44 rfl
theorem dL_law_425 : decode cL_law 425 = .ok (.iconst 2, 1) := dl_at bL_374_50 45 rfl
theorem dL_law_426 : decode cL_law 426 = .ok (.iadd, 1) := dl_at bL_374_50 46 rfl
theorem dL_law_427 : decode cL_law 427 = .ok (.iaload, 1) := dl_at bL_374_50 47 rfl
theorem dL_law_428 : decode cL_law 428 = .ok (.invokevirtual 37, 3) := dl_at bL_374_50 48 rfl
theorem dL_law_431 : decode cL_law 431 = .ok (.aload_n 2, 1) := dl_at bL_374_50 49 rfl
def lL_432_50 : List (Nat × Instr × Nat) := [(432, .aload_n 0, 1), (433, .iload_n 3, 1), (434, .iconst 1, 1), (435, .iadd, 1), (436, .iaload, 1), (437, .aload_n 0, 1), (438, .iload_n 3, 1), (439, .iconst 2, 1), (440, .iadd, 1), (441, .iaload, 1), (442, .invokevirtual 41, 3), (445, .lcmp, 1), (446, .ifCond .eq 750, 3), (449, .iconst 0, 1), (450, .ireturn, 1), (451, .aload_n 1, 1), (452, .aload_n 0, 1), (453, .iload_n 3, 1), (454, .iconst 1, 1), (455, .iadd, 1), (456, .iaload, 1), (457, .invokevirtual 42, 3), (460, .pop, 1), (461, .aload_n 2, 1), (462, .aload_n 0, 1), (463, .iload_n 3, 1), (464, .iconst 1, 1), (465, .iadd, 1), (466, .iaload, 1), (467, .invokevirtual 45, 3), (470, .pop, 1), (471, .goto 725, 3), (474, .aload_n 1, 1), (475, .aload_n 0, 1), (476, .iload_n 3, 1), (477, .iconst 1, 1), (478, .iadd, 1), (479, .iaload, 1), (480, .aload_n 0, 1), (481, .iload_n 3, 1), (482, .iconst 2, 1), (483, .iadd, 1), (484, .iaload, 1), (485, .invokevirtual 46, 3), (488, .pop, 1), (489, .aload_n 2, 1), (490, .aload_n 0, 1), (491, .iload_n 3, 1), (492, .iconst 1, 1), (493, .iadd, 1)]
theorem bL_432_50 : lL_432_50.all (dOK cL_law) = true := by decide +kernel
theorem dL_law_432 : decode cL_law 432 = .ok (.aload_n 0, 1) := dl_at bL_432_50 0 rfl
theorem dL_law_433 : decode cL_law 433 = .ok (.iload_n 3, 1) := dl_at bL_432_50 1 rfl
theorem dL_law_434 : decode cL_law 434 = .ok (.iconst 1, 1) := dl_at bL_432_50 2 rfl
theorem dL_law_435 : decode cL_law 435 = .ok (.iadd, 1) := dl_at bL_432_50 3 rfl
theorem dL_law_436 : decode cL_law 436 = .ok (.iaload, 1) := dl_at bL_432_50 4 rfl
theorem dL_law_437 : decode cL_law 437 = .ok (.aload_n 0, 1) := dl_at bL_432_50 5 rfl
theorem dL_law_438 : decode cL_law 438 = .ok (.iload_n 3, 1) := dl_at bL_432_50 6 rfl
theorem dL_law_439 : decode cL_law 439 = .ok (.iconst 2, 1) := dl_at bL_432_50 7 rfl
theorem dL_law_440 : decode cL_law 440 = .ok (.iadd, 1) := dl_at bL_432_50 8 rfl
theorem dL_law_441 : decode cL_law 441 = .ok (.iaload, 1) := dl_at bL_432_50 9 rfl
theorem dL_law_442 : decode cL_law 442 = .ok (.invokevirtual 41, 3) := dl_at bL_432_50 10 rfl
theorem dL_law_445 : decode cL_law 445 = .ok (.lcmp, 1) := dl_at bL_432_50 11 rfl
theorem dL_law_446 : decode cL_law 446 = .ok (.ifCond .eq 750, 3) := dl_at bL_432_50 12 rfl
theorem dL_law_449 : decode cL_law 449 = .ok (.iconst 0, 1) := dl_at bL_432_50 13 rfl
theorem dL_law_450 : decode cL_law 450 = .ok (.ireturn, 1) := dl_at bL_432_50 14 rfl
theorem dL_law_451 : decode cL_law 451 = .ok (.aload_n 1, 1) := dl_at bL_432_50 15 rfl
theorem dL_law_452 : decode cL_law 452 = .ok (.aload_n 0, 1) := dl_at bL_432_50 16 rfl
theorem dL_law_453 : decode cL_law 453 = .ok (.iload_n 3, 1) := dl_at bL_432_50 17 rfl
theorem dL_law_454 : decode cL_law 454 = .ok (.iconst 1, 1) := dl_at bL_432_50 18 rfl
theorem dL_law_455 : decode cL_law 455 = .ok (.iadd, 1) := dl_at bL_432_50 19 rfl
theorem dL_law_456 : decode cL_law 456 = .ok (.iaload, 1) := dl_at bL_432_50 20 rfl
theorem dL_law_457 : decode cL_law 457 = .ok (.invokevirtual 42, 3) := dl_at bL_432_50 21 rfl
theorem dL_law_460 : decode cL_law 460 = .ok (.pop, 1) := dl_at bL_432_50 22 rfl
theorem dL_law_461 : decode cL_law 461 = .ok (.aload_n 2, 1) := dl_at bL_432_50 23 rfl
theorem dL_law_462 : decode cL_law 462 = .ok (.aload_n 0, 1) := dl_at bL_432_50 24 rfl
theorem dL_law_463 : decode cL_law 463 = .ok (.iload_n 3, 1) := dl_at bL_432_50 25 rfl
theorem dL_law_464 : decode cL_law 464 = .ok (.iconst 1, 1) := dl_at bL_432_50 26 rfl
theorem dL_law_465 : decode cL_law 465 = .ok (.iadd, 1) := dl_at bL_432_50 27 rfl
theorem dL_law_466 : decode cL_law 466 = .ok (.iaload, 1) := dl_at bL_432_50 28 rfl
theorem dL_law_467 : decode cL_law 467 = .ok (.invokevirtual 45, 3) := dl_at bL_432_50 29 rfl
theorem dL_law_470 : decode cL_law 470 = .ok (.pop, 1) := dl_at bL_432_50 30 rfl
theorem dL_law_471 : decode cL_law 471 = .ok (.goto 725, 3) := dl_at bL_432_50 31 rfl
theorem dL_law_474 : decode cL_law 474 = .ok (.aload_n 1, 1) := dl_at bL_432_50 32 rfl
theorem dL_law_475 : decode cL_law 475 = .ok (.aload_n 0, 1) := dl_at bL_432_50 33 rfl
theorem dL_law_476 : decode cL_law 476 = .ok (.iload_n 3, 1) := dl_at bL_432_50 34 rfl
theorem dL_law_477 : decode cL_law 477 = .ok (.iconst 1, 1) := dl_at bL_432_50 35 rfl
theorem dL_law_478 : decode cL_law 478 = .ok (.iadd, 1) := dl_at bL_432_50 36 rfl
theorem dL_law_479 : decode cL_law 479 = .ok (.iaload, 1) := dl_at bL_432_50 37 rfl
theorem dL_law_480 : decode cL_law 480 = .ok (.aload_n 0, 1) := dl_at bL_432_50 38 rfl
theorem dL_law_481 : decode cL_law 481 = .ok (.iload_n 3, 1) := dl_at bL_432_50 39 rfl
theorem dL_law_482 : decode cL_law 482 = .ok (.iconst 2, 1) := dl_at bL_432_50 40 rfl
theorem dL_law_483 : decode cL_law 483 = .ok (.iadd, 1) := dl_at bL_432_50 41 rfl
theorem dL_law_484 : decode cL_law 484 = .ok (.iaload, 1) := dl_at bL_432_50 42 rfl
theorem dL_law_485 : decode cL_law 485 = .ok (.invokevirtual 46, 3) := dl_at bL_432_50 43 rfl
theorem dL_law_488 : decode cL_law 488 = .ok (.pop, 1) := dl_at bL_432_50 44 rfl
theorem dL_law_489 : decode cL_law 489 = .ok (.aload_n 2, 1) := dl_at bL_432_50 45 rfl
theorem dL_law_490 : decode cL_law 490 = .ok (.aload_n 0, 1) := dl_at bL_432_50 46 rfl
theorem dL_law_491 : decode cL_law 491 = .ok (.iload_n 3, 1) := dl_at bL_432_50 47 rfl
theorem dL_law_492 : decode cL_law 492 = .ok (.iconst 1, 1) := dl_at bL_432_50 48 rfl
theorem dL_law_493 : decode cL_law 493 = .ok (.iadd, 1) := dl_at bL_432_50 49 rfl
def lL_494_50 : List (Nat × Instr × Nat) := [(494, .iaload, 1), (495, .aload_n 0, 1), (496, .iload_n 3, 1), (497, .iconst 2, 1), (498, .iadd, 1), (499, .iaload, 1), (500, .invokevirtual 50, 3), (503, .pop, 1), (504, .goto 692, 3), (507, .aload_n 1, 1), (508, .aload_n 0, 1), (509, .iload_n 3, 1), (510, .iconst 1, 1), (511, .iadd, 1), (512, .iaload, 1), (513, .aload_n 0, 1), (514, .iload_n 3, 1), (515, .iconst 2, 1), (516, .iadd, 1), (517, .iaload, 1), (518, .invokevirtual 51, 3), (521, .pop, 1), (522, .aload_n 2, 1), (523, .aload_n 0, 1), (524, .iload_n 3, 1), (525, .iconst 1, 1), (526, .iadd, 1), (527, .iaload, 1), (528, .aload_n 0, 1), (529, .iload_n 3, 1), (530, .iconst 2, 1), (531, .iadd, 1), (532, .iaload, 1), (533, .invokevirtual 54, 3), (536, .pop, 1), (537, .goto 659, 3), (540, .aload_n 1, 1), (541, .invokevirtual 55, 3), (544, .pop, 1), (545, .aload_n 2, 1), (546, .invokevirtual 59, 3), (549, .pop, 1), (550, .goto 646, 3), (553, .aload_n 1, 1), (554, .aload_n 0, 1), (555, .iload_n 3, 1), (556, .iconst 1, 1), (557, .iadd, 1), (558, .iaload, 1), (559, .aload_n 0, 1)]
theorem bL_494_50 : lL_494_50.all (dOK cL_law) = true := by decide +kernel
theorem dL_law_494 : decode cL_law 494 = .ok (.iaload, 1) := dl_at bL_494_50 0 rfl
theorem dL_law_495 : decode cL_law 495 = .ok (.aload_n 0, 1) := dl_at bL_494_50 1 rfl
theorem dL_law_496 : decode cL_law 496 = .ok (.iload_n 3, 1) := dl_at bL_494_50 2 rfl
theorem dL_law_497 : decode cL_law 497 = .ok (.iconst 2, 1) := dl_at bL_494_50 3 rfl
theorem dL_law_498 : decode cL_law 498 = .ok (.iadd, 1) := dl_at bL_494_50 4 rfl
theorem dL_law_499 : decode cL_law 499 = .ok (.iaload, 1) := dl_at bL_494_50 5 rfl
theorem dL_law_500 : decode cL_law 500 = .ok (.invokevirtual 50, 3) := dl_at bL_494_50 6 rfl
theorem dL_law_503 : decode cL_law 503 = .ok (.pop, 1) := dl_at bL_494_50 7 rfl
theorem dL_law_504 : decode cL_law 504 = .ok (.goto 692, 3) := dl_at bL_494_50 8 rfl
theorem dL_law_507 : decode cL_law 507 = .ok (.aload_n 1, 1) := dl_at bL_494_50 9 rfl
theorem dL_law_508 : decode cL_law 508 = .ok (.aload_n 0, 1) := dl_at bL_494_50 10 rfl
theorem dL_law_509 : decode cL_law 509 = .ok (.iload_n 3, 1) := dl_at bL_494_50 11 rfl
theorem dL_law_510 : decode cL_law 510 = .ok (.iconst 1, 1) := dl_at bL_494_50 12 rfl
theorem dL_law_511 : decode cL_law 511 = .ok (.iadd, 1) := dl_at bL_494_50 13 rfl
theorem dL_law_512 : decode cL_law 512 = .ok (.iaload, 1) := dl_at bL_494_50 14 rfl
theorem dL_law_513 : decode cL_law 513 = .ok (.aload_n 0, 1) := dl_at bL_494_50 15 rfl
theorem dL_law_514 : decode cL_law 514 = .ok (.iload_n 3, 1) := dl_at bL_494_50 16 rfl
theorem dL_law_515 : decode cL_law 515 = .ok (.iconst 2, 1) := dl_at bL_494_50 17 rfl
theorem dL_law_516 : decode cL_law 516 = .ok (.iadd, 1) := dl_at bL_494_50 18 rfl
theorem dL_law_517 : decode cL_law 517 = .ok (.iaload, 1) := dl_at bL_494_50 19 rfl
theorem dL_law_518 : decode cL_law 518 = .ok (.invokevirtual 51, 3) := dl_at bL_494_50 20 rfl
theorem dL_law_521 : decode cL_law 521 = .ok (.pop, 1) := dl_at bL_494_50 21 rfl
theorem dL_law_522 : decode cL_law 522 = .ok (.aload_n 2, 1) := dl_at bL_494_50 22 rfl
theorem dL_law_523 : decode cL_law 523 = .ok (.aload_n 0, 1) := dl_at bL_494_50 23 rfl
theorem dL_law_524 : decode cL_law 524 = .ok (.iload_n 3, 1) := dl_at bL_494_50 24 rfl
theorem dL_law_525 : decode cL_law 525 = .ok (.iconst 1, 1) := dl_at bL_494_50 25 rfl
theorem dL_law_526 : decode cL_law 526 = .ok (.iadd, 1) := dl_at bL_494_50 26 rfl
theorem dL_law_527 : decode cL_law 527 = .ok (.iaload, 1) := dl_at bL_494_50 27 rfl
theorem dL_law_528 : decode cL_law 528 = .ok (.aload_n 0, 1) := dl_at bL_494_50 28 rfl
theorem dL_law_529 : decode cL_law 529 = .ok (.iload_n 3, 1) := dl_at bL_494_50 29 rfl
theorem dL_law_530 : decode cL_law 530 = .ok (.iconst 2, 1) := dl_at bL_494_50 30 rfl
theorem dL_law_531 : decode cL_law 531 = .ok (.iadd, 1) := dl_at bL_494_50 31 rfl
theorem dL_law_532 : decode cL_law 532 = .ok (.iaload, 1) := dl_at bL_494_50 32 rfl
theorem dL_law_533 : decode cL_law 533 = .ok (.invokevirtual 54, 3) := dl_at bL_494_50 33 rfl
theorem dL_law_536 : decode cL_law 536 = .ok (.pop, 1) := dl_at bL_494_50 34 rfl
theorem dL_law_537 : decode cL_law 537 = .ok (.goto 659, 3) := dl_at bL_494_50 35 rfl
theorem dL_law_540 : decode cL_law 540 = .ok (.aload_n 1, 1) := dl_at bL_494_50 36 rfl
theorem dL_law_541 : decode cL_law 541 = .ok (.invokevirtual 55, 3) := dl_at bL_494_50 37 rfl
theorem dL_law_544 : decode cL_law 544 = .ok (.pop, 1) := dl_at bL_494_50 38 rfl
theorem dL_law_545 : decode cL_law 545 = .ok (.aload_n 2, 1) := dl_at bL_494_50 39 rfl
theorem dL_law_546 : decode cL_law 546 = .ok (.invokevirtual 59, 3) := dl_at bL_494_50 40 rfl
theorem dL_law_549 : decode cL_law 549 = .ok (.pop, 1) := dl_at bL_494_50 41 rfl
theorem dL_law_550 : decode cL_law 550 = .ok (.goto 646, 3) := dl_at bL_494_50 42 rfl
theorem dL_law_553 : decode cL_law 553 = .ok (.aload_n 1, 1) := dl_at bL_494_50 43 rfl
theorem dL_law_554 : decode cL_law 554 = .ok (.aload_n 0, 1) := dl_at bL_494_50 44 rfl
theorem dL_law_555 : decode cL_law 555 = .ok (.iload_n 3, 1) := dl_at bL_494_50 45 rfl
theorem dL_law_556 : decode cL_law 556 = .ok (.iconst 1, 1) := dl_at bL_494_50 46 rfl
theorem dL_law_557 : decode cL_law 557 = .ok (.iadd, 1) := dl_at bL_494_50 47 rfl
theorem dL_law_558 : decode cL_law 558 = .ok (.iaload, 1) := dl_at bL_494_50 48 rfl
theorem dL_law_559 : decode cL_law 559 = .ok (.aload_n 0, 1) := dl_at bL_494_50 49 rfl
def lL_560_50 : List (Nat × Instr × Nat) := [(560, .iload_n 3, 1), (561, .iconst 2, 1), (562, .iadd, 1), (563, .iaload, 1), (564, .invokevirtual 60, 3), (567, .pop, 1), (568, .aload_n 2, 1), (569, .aload_n 0, 1), (570, .iload_n 3, 1), (571, .iconst 1, 1), (572, .iadd, 1), (573, .iaload, 1), (574, .aload_n 0, 1), (575, .iload_n 3, 1), (576, .iconst 2, 1), (577, .iadd, 1), (578, .iaload, 1), (579, .invokevirtual 63, 3), (582, .pop, 1), (583, .goto 613, 3), (586, .aload_n 1, 1), (587, .aload_n 0, 1), (588, .iload_n 3, 1), (589, .iconst 1, 1), (590, .iadd, 1), (591, .iaload, 1), (592, .aload_n 0, 1), (593, .iload_n 3, 1), (594, .iconst 2, 1), (595, .iadd, 1), (596, .iaload, 1), (597, .aload_n 0, 1), (598, .iload_n 3, 1), (599, .iconst 3, 1), (600, .iadd, 1), (601, .iaload, 1), (602, .invokevirtual 64, 3), (605, .pop, 1), (606, .aload_n 2, 1), (607, .aload_n 0, 1), (608, .iload_n 3, 1), (609, .iconst 1, 1), (610, .iadd, 1), (611, .iaload, 1), (612, .aload_n 0, 1), (613, .iload_n 3, 1), (614, .iconst 2, 1), (615, .iadd, 1), (616, .iaload, 1), (617, .aload_n 0, 1)]
theorem bL_560_50 : lL_560_50.all (dOK cL_law) = true := by decide +kernel
theorem dL_law_560 : decode cL_law 560 = .ok (.iload_n 3, 1) := dl_at bL_560_50 0 rfl
theorem dL_law_561 : decode cL_law 561 = .ok (.iconst 2, 1) := dl_at bL_560_50 1 rfl
theorem dL_law_562 : decode cL_law 562 = .ok (.iadd, 1) := dl_at bL_560_50 2 rfl
theorem dL_law_563 : decode cL_law 563 = .ok (.iaload, 1) := dl_at bL_560_50 3 rfl
theorem dL_law_564 : decode cL_law 564 = .ok (.invokevirtual 60, 3) := dl_at bL_560_50 4 rfl
theorem dL_law_567 : decode cL_law 567 = .ok (.pop, 1) := dl_at bL_560_50 5 rfl
theorem dL_law_568 : decode cL_law 568 = .ok (.aload_n 2, 1) := dl_at bL_560_50 6 rfl
theorem dL_law_569 : decode cL_law 569 = .ok (.aload_n 0, 1) := dl_at bL_560_50 7 rfl
theorem dL_law_570 : decode cL_law 570 = .ok (.iload_n 3, 1) := dl_at bL_560_50 8 rfl
theorem dL_law_571 : decode cL_law 571 = .ok (.iconst 1, 1) := dl_at bL_560_50 9 rfl
theorem dL_law_572 : decode cL_law 572 = .ok (.iadd, 1) := dl_at bL_560_50 10 rfl
theorem dL_law_573 : decode cL_law 573 = .ok (.iaload, 1) := dl_at bL_560_50 11 rfl
theorem dL_law_574 : decode cL_law 574 = .ok (.aload_n 0, 1) := dl_at bL_560_50 12 rfl
theorem dL_law_575 : decode cL_law 575 = .ok (.iload_n 3, 1) := dl_at bL_560_50 13 rfl
theorem dL_law_576 : decode cL_law 576 = .ok (.iconst 2, 1) := dl_at bL_560_50 14 rfl
theorem dL_law_577 : decode cL_law 577 = .ok (.iadd, 1) := dl_at bL_560_50 15 rfl
theorem dL_law_578 : decode cL_law 578 = .ok (.iaload, 1) := dl_at bL_560_50 16 rfl
theorem dL_law_579 : decode cL_law 579 = .ok (.invokevirtual 63, 3) := dl_at bL_560_50 17 rfl
theorem dL_law_582 : decode cL_law 582 = .ok (.pop, 1) := dl_at bL_560_50 18 rfl
theorem dL_law_583 : decode cL_law 583 = .ok (.goto 613, 3) := dl_at bL_560_50 19 rfl
theorem dL_law_586 : decode cL_law 586 = .ok (.aload_n 1, 1) := dl_at bL_560_50 20 rfl
theorem dL_law_587 : decode cL_law 587 = .ok (.aload_n 0, 1) := dl_at bL_560_50 21 rfl
theorem dL_law_588 : decode cL_law 588 = .ok (.iload_n 3, 1) := dl_at bL_560_50 22 rfl
theorem dL_law_589 : decode cL_law 589 = .ok (.iconst 1, 1) := dl_at bL_560_50 23 rfl
theorem dL_law_590 : decode cL_law 590 = .ok (.iadd, 1) := dl_at bL_560_50 24 rfl
theorem dL_law_591 : decode cL_law 591 = .ok (.iaload, 1) := dl_at bL_560_50 25 rfl
theorem dL_law_592 : decode cL_law 592 = .ok (.aload_n 0, 1) := dl_at bL_560_50 26 rfl
theorem dL_law_593 : decode cL_law 593 = .ok (.iload_n 3, 1) := dl_at bL_560_50 27 rfl
theorem dL_law_594 : decode cL_law 594 = .ok (.iconst 2, 1) := dl_at bL_560_50 28 rfl
theorem dL_law_595 : decode cL_law 595 = .ok (.iadd, 1) := dl_at bL_560_50 29 rfl
theorem dL_law_596 : decode cL_law 596 = .ok (.iaload, 1) := dl_at bL_560_50 30 rfl
theorem dL_law_597 : decode cL_law 597 = .ok (.aload_n 0, 1) := dl_at bL_560_50 31 rfl
theorem dL_law_598 : decode cL_law 598 = .ok (.iload_n 3, 1) := dl_at bL_560_50 32 rfl
theorem dL_law_599 : decode cL_law 599 = .ok (.iconst 3, 1) := dl_at bL_560_50 33 rfl
theorem dL_law_600 : decode cL_law 600 = .ok (.iadd, 1) := dl_at bL_560_50 34 rfl
theorem dL_law_601 : decode cL_law 601 = .ok (.iaload, 1) := dl_at bL_560_50 35 rfl
theorem dL_law_602 : decode cL_law 602 = .ok (.invokevirtual 64, 3) := dl_at bL_560_50 36 rfl
theorem dL_law_605 : decode cL_law 605 = .ok (.pop, 1) := dl_at bL_560_50 37 rfl
theorem dL_law_606 : decode cL_law 606 = .ok (.aload_n 2, 1) := dl_at bL_560_50 38 rfl
theorem dL_law_607 : decode cL_law 607 = .ok (.aload_n 0, 1) := dl_at bL_560_50 39 rfl
theorem dL_law_608 : decode cL_law 608 = .ok (.iload_n 3, 1) := dl_at bL_560_50 40 rfl
theorem dL_law_609 : decode cL_law 609 = .ok (.iconst 1, 1) := dl_at bL_560_50 41 rfl
theorem dL_law_610 : decode cL_law 610 = .ok (.iadd, 1) := dl_at bL_560_50 42 rfl
theorem dL_law_611 : decode cL_law 611 = .ok (.iaload, 1) := dl_at bL_560_50 43 rfl
theorem dL_law_612 : decode cL_law 612 = .ok (.aload_n 0, 1) := dl_at bL_560_50 44 rfl
theorem dL_law_613 : decode cL_law 613 = .ok (.iload_n 3, 1) := dl_at bL_560_50 45 rfl
theorem dL_law_614 : decode cL_law 614 = .ok (.iconst 2, 1) := dl_at bL_560_50 46 rfl
theorem dL_law_615 : decode cL_law 615 = .ok (.iadd, 1) := dl_at bL_560_50 47 rfl
theorem dL_law_616 : decode cL_law 616 = .ok (.iaload, 1) := dl_at bL_560_50 48 rfl
theorem dL_law_617 : decode cL_law 617 = .ok (.aload_n 0, 1) := dl_at bL_560_50 49 rfl
def lL_618_50 : List (Nat × Instr × Nat) := [(618, .iload_n 3, 1), (619, .iconst 3, 1), (620, .iadd, 1), (621, .iaload, 1), (622, .invokevirtual 67, 3), (625, .pop, 1), (626, .goto 570, 3), (629, .aload_n 1, 1), (630, .aload_n 0, 1), (631, .iload_n 3, 1), (632, .iconst 1, 1), (633, .iadd, 1), (634, .iaload, 1), (635, .aload_n 0, 1), (636, .iload_n 3, 1), (637, .iconst 2, 1), (638, .iadd, 1), (639, .iaload, 1), (640, .aload_n 0, 1), (641, .iload_n 3, 1), (642, .iconst 3, 1), (643, .iadd, 1), (644, .iaload, 1), (645, .invokevirtual 68, 3), (648, .pop2, 1), (649, .aload_n 2, 1), (650, .aload_n 0, 1), (651, .iload_n 3, 1), (652, .iconst 1, 1), (653, .iadd, 1), (654, .iaload, 1), (655, .aload_n 0, 1), (656, .iload_n 3, 1), (657, .iconst 2, 1), (658, .iadd, 1), (659, .iaload, 1), (660, .aload_n 0, 1), (661, .iload_n 3, 1), (662, .iconst 3, 1), (663, .iadd, 1), (664, .iaload, 1), (665, .invokevirtual 72, 3), (668, .pop2, 1), (669, .goto 527, 3), (672, .aload_n 1, 1), (673, .aload_n 0, 1), (674, .iload_n 3, 1), (675, .iconst 1, 1), (676, .iadd, 1), (677, .iaload, 1)]
theorem bL_618_50 : lL_618_50.all (dOK cL_law) = true := by decide +kernel
theorem dL_law_618 : decode cL_law 618 = .ok (.iload_n 3, 1) := dl_at bL_618_50 0 rfl
theorem dL_law_619 : decode cL_law 619 = .ok (.iconst 3, 1) := dl_at bL_618_50 1 rfl
theorem dL_law_620 : decode cL_law 620 = .ok (.iadd, 1) := dl_at bL_618_50 2 rfl
theorem dL_law_621 : decode cL_law 621 = .ok (.iaload, 1) := dl_at bL_618_50 3 rfl
theorem dL_law_622 : decode cL_law 622 = .ok (.invokevirtual 67, 3) := dl_at bL_618_50 4 rfl
theorem dL_law_625 : decode cL_law 625 = .ok (.pop, 1) := dl_at bL_618_50 5 rfl
theorem dL_law_626 : decode cL_law 626 = .ok (.goto 570, 3) := dl_at bL_618_50 6 rfl
theorem dL_law_629 : decode cL_law 629 = .ok (.aload_n 1, 1) := dl_at bL_618_50 7 rfl
theorem dL_law_630 : decode cL_law 630 = .ok (.aload_n 0, 1) := dl_at bL_618_50 8 rfl
theorem dL_law_631 : decode cL_law 631 = .ok (.iload_n 3, 1) := dl_at bL_618_50 9 rfl
theorem dL_law_632 : decode cL_law 632 = .ok (.iconst 1, 1) := dl_at bL_618_50 10 rfl
theorem dL_law_633 : decode cL_law 633 = .ok (.iadd, 1) := dl_at bL_618_50 11 rfl
theorem dL_law_634 : decode cL_law 634 = .ok (.iaload, 1) := dl_at bL_618_50 12 rfl
theorem dL_law_635 : decode cL_law 635 = .ok (.aload_n 0, 1) := dl_at bL_618_50 13 rfl
theorem dL_law_636 : decode cL_law 636 = .ok (.iload_n 3, 1) := dl_at bL_618_50 14 rfl
theorem dL_law_637 : decode cL_law 637 = .ok (.iconst 2, 1) := dl_at bL_618_50 15 rfl
theorem dL_law_638 : decode cL_law 638 = .ok (.iadd, 1) := dl_at bL_618_50 16 rfl
theorem dL_law_639 : decode cL_law 639 = .ok (.iaload, 1) := dl_at bL_618_50 17 rfl
theorem dL_law_640 : decode cL_law 640 = .ok (.aload_n 0, 1) := dl_at bL_618_50 18 rfl
theorem dL_law_641 : decode cL_law 641 = .ok (.iload_n 3, 1) := dl_at bL_618_50 19 rfl
theorem dL_law_642 : decode cL_law 642 = .ok (.iconst 3, 1) := dl_at bL_618_50 20 rfl
theorem dL_law_643 : decode cL_law 643 = .ok (.iadd, 1) := dl_at bL_618_50 21 rfl
theorem dL_law_644 : decode cL_law 644 = .ok (.iaload, 1) := dl_at bL_618_50 22 rfl
theorem dL_law_645 : decode cL_law 645 = .ok (.invokevirtual 68, 3) := dl_at bL_618_50 23 rfl
theorem dL_law_648 : decode cL_law 648 = .ok (.pop2, 1) := dl_at bL_618_50 24 rfl
theorem dL_law_649 : decode cL_law 649 = .ok (.aload_n 2, 1) := dl_at bL_618_50 25 rfl
theorem dL_law_650 : decode cL_law 650 = .ok (.aload_n 0, 1) := dl_at bL_618_50 26 rfl
theorem dL_law_651 : decode cL_law 651 = .ok (.iload_n 3, 1) := dl_at bL_618_50 27 rfl
theorem dL_law_652 : decode cL_law 652 = .ok (.iconst 1, 1) := dl_at bL_618_50 28 rfl
theorem dL_law_653 : decode cL_law 653 = .ok (.iadd, 1) := dl_at bL_618_50 29 rfl
theorem dL_law_654 : decode cL_law 654 = .ok (.iaload, 1) := dl_at bL_618_50 30 rfl
theorem dL_law_655 : decode cL_law 655 = .ok (.aload_n 0, 1) := dl_at bL_618_50 31 rfl
theorem dL_law_656 : decode cL_law 656 = .ok (.iload_n 3, 1) := dl_at bL_618_50 32 rfl
theorem dL_law_657 : decode cL_law 657 = .ok (.iconst 2, 1) := dl_at bL_618_50 33 rfl
theorem dL_law_658 : decode cL_law 658 = .ok (.iadd, 1) := dl_at bL_618_50 34 rfl
theorem dL_law_659 : decode cL_law 659 = .ok (.iaload, 1) := dl_at bL_618_50 35 rfl
theorem dL_law_660 : decode cL_law 660 = .ok (.aload_n 0, 1) := dl_at bL_618_50 36 rfl
theorem dL_law_661 : decode cL_law 661 = .ok (.iload_n 3, 1) := dl_at bL_618_50 37 rfl
theorem dL_law_662 : decode cL_law 662 = .ok (.iconst 3, 1) := dl_at bL_618_50 38 rfl
theorem dL_law_663 : decode cL_law 663 = .ok (.iadd, 1) := dl_at bL_618_50 39 rfl
theorem dL_law_664 : decode cL_law 664 = .ok (.iaload, 1) := dl_at bL_618_50 40 rfl
theorem dL_law_665 : decode cL_law 665 = .ok (.invokevirtual 72, 3) := dl_at bL_618_50 41 rfl
theorem dL_law_668 : decode cL_law 668 = .ok (.pop2, 1) := dl_at bL_618_50 42 rfl
theorem dL_law_669 : decode cL_law 669 = .ok (.goto 527, 3) := dl_at bL_618_50 43 rfl
theorem dL_law_672 : decode cL_law 672 = .ok (.aload_n 1, 1) := dl_at bL_618_50 44 rfl
theorem dL_law_673 : decode cL_law 673 = .ok (.aload_n 0, 1) := dl_at bL_618_50 45 rfl
theorem dL_law_674 : decode cL_law 674 = .ok (.iload_n 3, 1) := dl_at bL_618_50 46 rfl
theorem dL_law_675 : decode cL_law 675 = .ok (.iconst 1, 1) := dl_at bL_618_50 47 rfl
theorem dL_law_676 : decode cL_law 676 = .ok (.iadd, 1) := dl_at bL_618_50 48 rfl
theorem dL_law_677 : decode cL_law 677 = .ok (.iaload, 1) := dl_at bL_618_50 49 rfl
def lL_678_50 : List (Nat × Instr × Nat) := [(678, .invokevirtual 73, 3), (681, .pop2, 1), (682, .aload_n 2, 1), (683, .aload_n 0, 1), (684, .iload_n 3, 1), (685, .iconst 1, 1), (686, .iadd, 1), (687, .iaload, 1), (688, .invokevirtual 77, 3), (691, .pop2, 1), (692, .goto 504, 3), (695, .aload_n 1, 1), (696, .aload_n 0, 1), (697, .iload_n 3, 1), (698, .iconst 1, 1), (699, .iadd, 1), (700, .iaload, 1), (701, .aload_n 0, 1), (702, .iload_n 3, 1), (703, .iconst 2, 1), (704, .iadd, 1), (705, .iaload, 1), (706, .invokevirtual 78, 3), (709, .pop, 1), (710, .aload_n 2, 1), (711, .aload_n 0, 1), (712, .iload_n 3, 1), (713, .iconst 1, 1), (714, .iadd, 1), (715, .iaload, 1), (716, .aload_n 0, 1), (717, .iload_n 3, 1), (718, .iconst 2, 1), (719, .iadd, 1), (720, .iaload, 1), (721, .invokevirtual 81, 3), (724, .pop, 1), (725, .goto 471, 3), (728, .aload_n 1, 1), (729, .aload_n 0, 1), (730, .iload_n 3, 1), (731, .iconst 1, 1), (732, .iadd, 1), (733, .iaload, 1), (734, .aload_n 0, 1), (735, .iload_n 3, 1), (736, .iconst 2, 1), (737, .iadd, 1), (738, .iaload, 1), (739, .invokevirtual 82, 3)]
theorem bL_678_50 : lL_678_50.all (dOK cL_law) = true := by decide +kernel
theorem dL_law_678 : decode cL_law 678 = .ok (.invokevirtual 73, 3) := dl_at bL_678_50 0 rfl
theorem dL_law_681 : decode cL_law 681 = .ok (.pop2, 1) := dl_at bL_678_50 1 rfl
theorem dL_law_682 : decode cL_law 682 = .ok (.aload_n 2, 1) := dl_at bL_678_50 2 rfl
theorem dL_law_683 : decode cL_law 683 = .ok (.aload_n 0, 1) := dl_at bL_678_50 3 rfl
theorem dL_law_684 : decode cL_law 684 = .ok (.iload_n 3, 1) := dl_at bL_678_50 4 rfl
theorem dL_law_685 : decode cL_law 685 = .ok (.iconst 1, 1) := dl_at bL_678_50 5 rfl
theorem dL_law_686 : decode cL_law 686 = .ok (.iadd, 1) := dl_at bL_678_50 6 rfl
theorem dL_law_687 : decode cL_law 687 = .ok (.iaload, 1) := dl_at bL_678_50 7 rfl
theorem dL_law_688 : decode cL_law 688 = .ok (.invokevirtual 77, 3) := dl_at bL_678_50 8 rfl
theorem dL_law_691 : decode cL_law 691 = .ok (.pop2, 1) := dl_at bL_678_50 9 rfl
theorem dL_law_692 : decode cL_law 692 = .ok (.goto 504, 3) := dl_at bL_678_50 10 rfl
theorem dL_law_695 : decode cL_law 695 = .ok (.aload_n 1, 1) := dl_at bL_678_50 11 rfl
theorem dL_law_696 : decode cL_law 696 = .ok (.aload_n 0, 1) := dl_at bL_678_50 12 rfl
theorem dL_law_697 : decode cL_law 697 = .ok (.iload_n 3, 1) := dl_at bL_678_50 13 rfl
theorem dL_law_698 : decode cL_law 698 = .ok (.iconst 1, 1) := dl_at bL_678_50 14 rfl
theorem dL_law_699 : decode cL_law 699 = .ok (.iadd, 1) := dl_at bL_678_50 15 rfl
theorem dL_law_700 : decode cL_law 700 = .ok (.iaload, 1) := dl_at bL_678_50 16 rfl
theorem dL_law_701 : decode cL_law 701 = .ok (.aload_n 0, 1) := dl_at bL_678_50 17 rfl
theorem dL_law_702 : decode cL_law 702 = .ok (.iload_n 3, 1) := dl_at bL_678_50 18 rfl
theorem dL_law_703 : decode cL_law 703 = .ok (.iconst 2, 1) := dl_at bL_678_50 19 rfl
theorem dL_law_704 : decode cL_law 704 = .ok (.iadd, 1) := dl_at bL_678_50 20 rfl
theorem dL_law_705 : decode cL_law 705 = .ok (.iaload, 1) := dl_at bL_678_50 21 rfl
theorem dL_law_706 : decode cL_law 706 = .ok (.invokevirtual 78, 3) := dl_at bL_678_50 22 rfl
theorem dL_law_709 : decode cL_law 709 = .ok (.pop, 1) := dl_at bL_678_50 23 rfl
theorem dL_law_710 : decode cL_law 710 = .ok (.aload_n 2, 1) := dl_at bL_678_50 24 rfl
theorem dL_law_711 : decode cL_law 711 = .ok (.aload_n 0, 1) := dl_at bL_678_50 25 rfl
theorem dL_law_712 : decode cL_law 712 = .ok (.iload_n 3, 1) := dl_at bL_678_50 26 rfl
theorem dL_law_713 : decode cL_law 713 = .ok (.iconst 1, 1) := dl_at bL_678_50 27 rfl
theorem dL_law_714 : decode cL_law 714 = .ok (.iadd, 1) := dl_at bL_678_50 28 rfl
theorem dL_law_715 : decode cL_law 715 = .ok (.iaload, 1) := dl_at bL_678_50 29 rfl
theorem dL_law_716 : decode cL_law 716 = .ok (.aload_n 0, 1) := dl_at bL_678_50 30 rfl
theorem dL_law_717 : decode cL_law 717 = .ok (.iload_n 3, 1) := dl_at bL_678_50 31 rfl
theorem dL_law_718 : decode cL_law 718 = .ok (.iconst 2, 1) := dl_at bL_678_50 32 rfl
theorem dL_law_719 : decode cL_law 719 = .ok (.iadd, 1) := dl_at bL_678_50 33 rfl
theorem dL_law_720 : decode cL_law 720 = .ok (.iaload, 1) := dl_at bL_678_50 34 rfl
theorem dL_law_721 : decode cL_law 721 = .ok (.invokevirtual 81, 3) := dl_at bL_678_50 35 rfl
theorem dL_law_724 : decode cL_law 724 = .ok (.pop, 1) := dl_at bL_678_50 36 rfl
theorem dL_law_725 : decode cL_law 725 = .ok (.goto 471, 3) := dl_at bL_678_50 37 rfl
theorem dL_law_728 : decode cL_law 728 = .ok (.aload_n 1, 1) := dl_at bL_678_50 38 rfl
theorem dL_law_729 : decode cL_law 729 = .ok (.aload_n 0, 1) := dl_at bL_678_50 39 rfl
theorem dL_law_730 : decode cL_law 730 = .ok (.iload_n 3, 1) := dl_at bL_678_50 40 rfl
theorem dL_law_731 : decode cL_law 731 = .ok (.iconst 1, 1) := dl_at bL_678_50 41 rfl
theorem dL_law_732 : decode cL_law 732 = .ok (.iadd, 1) := dl_at bL_678_50 42 rfl
theorem dL_law_733 : decode cL_law 733 = .ok (.iaload, 1) := dl_at bL_678_50 43 rfl
theorem dL_law_734 : decode cL_law 734 = .ok (.aload_n 0, 1) := dl_at bL_678_50 44 rfl
theorem dL_law_735 : decode cL_law 735 = .ok (.iload_n 3, 1) := dl_at bL_678_50 45 rfl
theorem dL_law_736 : decode cL_law 736 = .ok (.iconst 2, 1) := dl_at bL_678_50 46 rfl
theorem dL_law_737 : decode cL_law 737 = .ok (.iadd, 1) := dl_at bL_678_50 47 rfl
theorem dL_law_738 : decode cL_law 738 = .ok (.iaload, 1) := dl_at bL_678_50 48 rfl
theorem dL_law_739 : decode cL_law 739 = .ok (.invokevirtual 82, 3) := dl_at bL_678_50 49 rfl
def lL_742_50 : List (Nat × Instr × Nat) := [(742, .pop2, 1), (743, .aload_n 2, 1), (744, .aload_n 0, 1), (745, .iload_n 3, 1), (746, .iconst 1, 1), (747, .iadd, 1), (748, .iaload, 1), (749, .aload_n 0, 1), (750, .iload_n 3, 1), (751, .iconst 2, 1), (752, .iadd, 1), (753, .iaload, 1), (754, .invokevirtual 85, 3), (757, .pop2, 1), (758, .goto 438, 3), (761, .aload_n 1, 1), (762, .aload_n 0, 1), (763, .iload_n 3, 1), (764, .iconst 1, 1), (765, .iadd, 1), (766, .iaload, 1), (767, .invokevirtual 86, 3), (770, .pop2, 1), (771, .aload_n 2, 1), (772, .aload_n 0, 1), (773, .iload_n 3, 1), (774, .iconst 1, 1), (775, .iadd, 1), (776, .iaload, 1), (777, .invokevirtual 89, 3), (780, .pop2, 1), (781, .goto 415, 3), (784, .aload_n 1, 1), (785, .invokevirtual 90, 3), (788, .pop, 1), (789, .aload_n 2, 1), (790, .invokevirtual 93, 3), (793, .pop, 1), (794, .goto 402, 3), (797, .aload_n 1, 1), (798, .aload_n 0, 1), (799, .iload_n 3, 1), (800, .iconst 1, 1), (801, .iadd, 1), (802, .iaload, 1), (803, .invokevirtual 94, 3), (806, .pop, 1), (807, .aload_n 2, 1), (808, .aload_n 0, 1), (809, .iload_n 3, 1)]
theorem bL_742_50 : lL_742_50.all (dOK cL_law) = true := by decide +kernel
theorem dL_law_742 : decode cL_law 742 = .ok (.pop2, 1) := dl_at bL_742_50 0 rfl
theorem dL_law_743 : decode cL_law 743 = .ok (.aload_n 2, 1) := dl_at bL_742_50 1 rfl
theorem dL_law_744 : decode cL_law 744 = .ok (.aload_n 0, 1) := dl_at bL_742_50 2 rfl
theorem dL_law_745 : decode cL_law 745 = .ok (.iload_n 3, 1) := dl_at bL_742_50 3 rfl
theorem dL_law_746 : decode cL_law 746 = .ok (.iconst 1, 1) := dl_at bL_742_50 4 rfl
theorem dL_law_747 : decode cL_law 747 = .ok (.iadd, 1) := dl_at bL_742_50 5 rfl
theorem dL_law_748 : decode cL_law 748 = .ok (.iaload, 1) := dl_at bL_742_50 6 rfl
theorem dL_law_749 : decode cL_law 749 = .ok (.aload_n 0, 1) := dl_at bL_742_50 7 rfl
theorem dL_law_750 : decode cL_law 750 = .ok (.iload_n 3, 1) := dl_at bL_742_50 8 rfl
theorem dL_law_751 : decode cL_law 751 = .ok (.iconst 2, 1) := dl_at bL_742_50 9 rfl
theorem dL_law_752 : decode cL_law 752 = .ok (.iadd, 1) := dl_at bL_742_50 10 rfl
theorem dL_law_753 : decode cL_law 753 = .ok (.iaload, 1) := dl_at bL_742_50 11 rfl
theorem dL_law_754 : decode cL_law 754 = .ok (.invokevirtual 85, 3) := dl_at bL_742_50 12 rfl
theorem dL_law_757 : decode cL_law 757 = .ok (.pop2, 1) := dl_at bL_742_50 13 rfl
theorem dL_law_758 : decode cL_law 758 = .ok (.goto 438, 3) := dl_at bL_742_50 14 rfl
theorem dL_law_761 : decode cL_law 761 = .ok (.aload_n 1, 1) := dl_at bL_742_50 15 rfl
theorem dL_law_762 : decode cL_law 762 = .ok (.aload_n 0, 1) := dl_at bL_742_50 16 rfl
theorem dL_law_763 : decode cL_law 763 = .ok (.iload_n 3, 1) := dl_at bL_742_50 17 rfl
theorem dL_law_764 : decode cL_law 764 = .ok (.iconst 1, 1) := dl_at bL_742_50 18 rfl
theorem dL_law_765 : decode cL_law 765 = .ok (.iadd, 1) := dl_at bL_742_50 19 rfl
theorem dL_law_766 : decode cL_law 766 = .ok (.iaload, 1) := dl_at bL_742_50 20 rfl
theorem dL_law_767 : decode cL_law 767 = .ok (.invokevirtual 86, 3) := dl_at bL_742_50 21 rfl
theorem dL_law_770 : decode cL_law 770 = .ok (.pop2, 1) := dl_at bL_742_50 22 rfl
theorem dL_law_771 : decode cL_law 771 = .ok (.aload_n 2, 1) := dl_at bL_742_50 23 rfl
theorem dL_law_772 : decode cL_law 772 = .ok (.aload_n 0, 1) := dl_at bL_742_50 24 rfl
theorem dL_law_773 : decode cL_law 773 = .ok (.iload_n 3, 1) := dl_at bL_742_50 25 rfl
theorem dL_law_774 : decode cL_law 774 = .ok (.iconst 1, 1) := dl_at bL_742_50 26 rfl
theorem dL_law_775 : decode cL_law 775 = .ok (.iadd, 1) := dl_at bL_742_50 27 rfl
theorem dL_law_776 : decode cL_law 776 = .ok (.iaload, 1) := dl_at bL_742_50 28 rfl
theorem dL_law_777 : decode cL_law 777 = .ok (.invokevirtual 89, 3) := dl_at bL_742_50 29 rfl
theorem dL_law_780 : decode cL_law 780 = .ok (.pop2, 1) := dl_at bL_742_50 30 rfl
theorem dL_law_781 : decode cL_law 781 = .ok (.goto 415, 3) := dl_at bL_742_50 31 rfl
theorem dL_law_784 : decode cL_law 784 = .ok (.aload_n 1, 1) := dl_at bL_742_50 32 rfl
theorem dL_law_785 : decode cL_law 785 = .ok (.invokevirtual 90, 3) := dl_at bL_742_50 33 rfl
theorem dL_law_788 : decode cL_law 788 = .ok (.pop, 1) := dl_at bL_742_50 34 rfl
theorem dL_law_789 : decode cL_law 789 = .ok (.aload_n 2, 1) := dl_at bL_742_50 35 rfl
theorem dL_law_790 : decode cL_law 790 = .ok (.invokevirtual 93, 3) := dl_at bL_742_50 36 rfl
theorem dL_law_793 : decode cL_law 793 = .ok (.pop, 1) := dl_at bL_742_50 37 rfl
theorem dL_law_794 : decode cL_law 794 = .ok (.goto 402, 3) := dl_at bL_742_50 38 rfl
theorem dL_law_797 : decode cL_law 797 = .ok (.aload_n 1, 1) := dl_at bL_742_50 39 rfl
theorem dL_law_798 : decode cL_law 798 = .ok (.aload_n 0, 1) := dl_at bL_742_50 40 rfl
theorem dL_law_799 : decode cL_law 799 = .ok (.iload_n 3, 1) := dl_at bL_742_50 41 rfl
theorem dL_law_800 : decode cL_law 800 = .ok (.iconst 1, 1) := dl_at bL_742_50 42 rfl
theorem dL_law_801 : decode cL_law 801 = .ok (.iadd, 1) := dl_at bL_742_50 43 rfl
theorem dL_law_802 : decode cL_law 802 = .ok (.iaload, 1) := dl_at bL_742_50 44 rfl
theorem dL_law_803 : decode cL_law 803 = .ok (.invokevirtual 94, 3) := dl_at bL_742_50 45 rfl
theorem dL_law_806 : decode cL_law 806 = .ok (.pop, 1) := dl_at bL_742_50 46 rfl
theorem dL_law_807 : decode cL_law 807 = .ok (.aload_n 2, 1) := dl_at bL_742_50 47 rfl
theorem dL_law_808 : decode cL_law 808 = .ok (.aload_n 0, 1) := dl_at bL_742_50 48 rfl
theorem dL_law_809 : decode cL_law 809 = .ok (.iload_n 3, 1) := dl_at bL_742_50 49 rfl
def lL_810_50 : List (Nat × Instr × Nat) := [(810, .iconst 1, 1), (811, .iadd, 1), (812, .iaload, 1), (813, .invokevirtual 97, 3), (816, .pop, 1), (817, .goto 379, 3), (820, .aload_n 1, 1), (821, .aload_n 0, 1), (822, .iload_n 3, 1), (823, .iconst 1, 1), (824, .iadd, 1), (825, .iaload, 1), (826, .aload_n 0, 1), (827, .iload_n 3, 1), (828, .iconst 2, 1), (829, .iadd, 1), (830, .iaload, 1), (831, .invokevirtual 98, 3), (834, .pop2, 1), (835, .aload_n 2, 1), (836, .aload_n 0, 1), (837, .iload_n 3, 1), (838, .iconst 1, 1), (839, .iadd, 1), (840, .iaload, 1), (841, .aload_n 0, 1), (842, .iload_n 3, 1), (843, .iconst 2, 1), (844, .iadd, 1), (845, .iaload, 1), (846, .invokevirtual 101, 3), (849, .pop2, 1), (850, .goto 346, 3), (853, .aload_n 1, 1), (854, .aload_n 0, 1), (855, .iload_n 3, 1), (856, .iconst 1, 1), (857, .iadd, 1), (858, .iaload, 1), (859, .aload_n 0, 1), (860, .iload_n 3, 1), (861, .iconst 2, 1), (862, .iadd, 1), (863, .iaload, 1), (864, .aload_n 0, 1), (865, .iload_n 3, 1), (866, .iconst 3, 1), (867, .iadd, 1), (868, .iaload, 1), (869, .invokevirtual 102, 3)]
theorem bL_810_50 : lL_810_50.all (dOK cL_law) = true := by decide +kernel
theorem dL_law_810 : decode cL_law 810 = .ok (.iconst 1, 1) := dl_at bL_810_50 0 rfl
theorem dL_law_811 : decode cL_law 811 = .ok (.iadd, 1) := dl_at bL_810_50 1 rfl
theorem dL_law_812 : decode cL_law 812 = .ok (.iaload, 1) := dl_at bL_810_50 2 rfl
theorem dL_law_813 : decode cL_law 813 = .ok (.invokevirtual 97, 3) := dl_at bL_810_50 3 rfl
theorem dL_law_816 : decode cL_law 816 = .ok (.pop, 1) := dl_at bL_810_50 4 rfl
theorem dL_law_817 : decode cL_law 817 = .ok (.goto 379, 3) := dl_at bL_810_50 5 rfl
theorem dL_law_820 : decode cL_law 820 = .ok (.aload_n 1, 1) := dl_at bL_810_50 6 rfl
theorem dL_law_821 : decode cL_law 821 = .ok (.aload_n 0, 1) := dl_at bL_810_50 7 rfl
theorem dL_law_822 : decode cL_law 822 = .ok (.iload_n 3, 1) := dl_at bL_810_50 8 rfl
theorem dL_law_823 : decode cL_law 823 = .ok (.iconst 1, 1) := dl_at bL_810_50 9 rfl
theorem dL_law_824 : decode cL_law 824 = .ok (.iadd, 1) := dl_at bL_810_50 10 rfl
theorem dL_law_825 : decode cL_law 825 = .ok (.iaload, 1) := dl_at bL_810_50 11 rfl
theorem dL_law_826 : decode cL_law 826 = .ok (.aload_n 0, 1) := dl_at bL_810_50 12 rfl
theorem dL_law_827 : decode cL_law 827 = .ok (.iload_n 3, 1) := dl_at bL_810_50 13 rfl
theorem dL_law_828 : decode cL_law 828 = .ok (.iconst 2, 1) := dl_at bL_810_50 14 rfl
theorem dL_law_829 : decode cL_law 829 = .ok (.iadd, 1) := dl_at bL_810_50 15 rfl
theorem dL_law_830 : decode cL_law 830 = .ok (.iaload, 1) := dl_at bL_810_50 16 rfl
theorem dL_law_831 : decode cL_law 831 = .ok (.invokevirtual 98, 3) := dl_at bL_810_50 17 rfl
theorem dL_law_834 : decode cL_law 834 = .ok (.pop2, 1) := dl_at bL_810_50 18 rfl
theorem dL_law_835 : decode cL_law 835 = .ok (.aload_n 2, 1) := dl_at bL_810_50 19 rfl
theorem dL_law_836 : decode cL_law 836 = .ok (.aload_n 0, 1) := dl_at bL_810_50 20 rfl
theorem dL_law_837 : decode cL_law 837 = .ok (.iload_n 3, 1) := dl_at bL_810_50 21 rfl
theorem dL_law_838 : decode cL_law 838 = .ok (.iconst 1, 1) := dl_at bL_810_50 22 rfl
theorem dL_law_839 : decode cL_law 839 = .ok (.iadd, 1) := dl_at bL_810_50 23 rfl
theorem dL_law_840 : decode cL_law 840 = .ok (.iaload, 1) := dl_at bL_810_50 24 rfl
theorem dL_law_841 : decode cL_law 841 = .ok (.aload_n 0, 1) := dl_at bL_810_50 25 rfl
theorem dL_law_842 : decode cL_law 842 = .ok (.iload_n 3, 1) := dl_at bL_810_50 26 rfl
theorem dL_law_843 : decode cL_law 843 = .ok (.iconst 2, 1) := dl_at bL_810_50 27 rfl
theorem dL_law_844 : decode cL_law 844 = .ok (.iadd, 1) := dl_at bL_810_50 28 rfl
theorem dL_law_845 : decode cL_law 845 = .ok (.iaload, 1) := dl_at bL_810_50 29 rfl
theorem dL_law_846 : decode cL_law 846 = .ok (.invokevirtual 101, 3) := dl_at bL_810_50 30 rfl
theorem dL_law_849 : decode cL_law 849 = .ok (.pop2, 1) := dl_at bL_810_50 31 rfl
theorem dL_law_850 : decode cL_law 850 = .ok (.goto 346, 3) := dl_at bL_810_50 32 rfl
theorem dL_law_853 : decode cL_law 853 = .ok (.aload_n 1, 1) := dl_at bL_810_50 33 rfl
theorem dL_law_854 : decode cL_law 854 = .ok (.aload_n 0, 1) := dl_at bL_810_50 34 rfl
theorem dL_law_855 : decode cL_law 855 = .ok (.iload_n 3, 1) := dl_at bL_810_50 35 rfl
theorem dL_law_856 : decode cL_law 856 = .ok (.iconst 1, 1) := dl_at bL_810_50 36 rfl
theorem dL_law_857 : decode cL_law 857 = .ok (.iadd, 1) := dl_at bL_810_50 37 rfl
theorem dL_law_858 : decode cL_law 858 = .ok (.iaload, 1) := dl_at bL_810_50 38 rfl
theorem dL_law_859 : decode cL_law 859 = .ok (.aload_n 0, 1) := dl_at bL_810_50 39 rfl
theorem dL_law_860 : decode cL_law 860 = .ok (.iload_n 3, 1) := dl_at bL_810_50 40 rfl
theorem dL_law_861 : decode cL_law 861 = .ok (.iconst 2, 1) := dl_at bL_810_50 41 rfl
theorem dL_law_862 : decode cL_law 862 = .ok (.iadd, 1) := dl_at bL_810_50 42 rfl
theorem dL_law_863 : decode cL_law 863 = .ok (.iaload, 1) := dl_at bL_810_50 43 rfl
theorem dL_law_864 : decode cL_law 864 = .ok (.aload_n 0, 1) := dl_at bL_810_50 44 rfl
theorem dL_law_865 : decode cL_law 865 = .ok (.iload_n 3, 1) := dl_at bL_810_50 45 rfl
theorem dL_law_866 : decode cL_law 866 = .ok (.iconst 3, 1) := dl_at bL_810_50 46 rfl
theorem dL_law_867 : decode cL_law 867 = .ok (.iadd, 1) := dl_at bL_810_50 47 rfl
theorem dL_law_868 : decode cL_law 868 = .ok (.iaload, 1) := dl_at bL_810_50 48 rfl
theorem dL_law_869 : decode cL_law 869 = .ok (.invokevirtual 102, 3) := dl_at bL_810_50 49 rfl
def lL_872_50 : List (Nat × Instr × Nat) := [(872, .pop, 1), (873, .aload_n 2, 1), (874, .aload_n 0, 1), (875, .iload_n 3, 1), (876, .iconst 1, 1), (877, .iadd, 1), (878, .iaload, 1), (879, .aload_n 0, 1), (880, .iload_n 3, 1), (881, .iconst 2, 1), (882, .iadd, 1), (883, .iaload, 1), (884, .aload_n 0, 1), (885, .iload_n 3, 1), (886, .iconst 3, 1), (887, .iadd, 1), (888, .iaload, 1), (889, .invokevirtual 105, 3), (892, .pop, 1), (893, .goto 303, 3), (896, .aload_n 1, 1), (897, .aload_n 0, 1), (898, .iload_n 3, 1), (899, .iconst 1, 1), (900, .iadd, 1), (901, .iaload, 1), (902, .invokevirtual 106, 3), (905, .pop, 1), (906, .aload_n 2, 1), (907, .aload_n 0, 1), (908, .iload_n 3, 1), (909, .iconst 1, 1), (910, .iadd, 1), (911, .iaload, 1), (912, .invokevirtual 109, 3), (915, .pop, 1), (916, .goto 280, 3), (919, .aload_n 1, 1), (920, .aload_n 0, 1), (921, .iload_n 3, 1), (922, .iconst 1, 1), (923, .iadd, 1), (924, .iaload, 1), (925, .aload_n 0, 1), (926, .iload_n 3, 1), (927, .iconst 2, 1), (928, .iadd, 1), (929, .iaload, 1), (930, .aload_n 0, 1), (931, .iload_n 3, 1)]
theorem bL_872_50 : lL_872_50.all (dOK cL_law) = true := by decide +kernel
theorem dL_law_872 : decode cL_law 872 = .ok (.pop, 1) := dl_at bL_872_50 0 rfl
theorem dL_law_873 : decode cL_law 873 = .ok (.aload_n 2, 1) := dl_at bL_872_50 1 rfl
theorem dL_law_874 : decode cL_law 874 = .ok (.aload_n 0, 1) := dl_at bL_872_50 2 rfl
theorem dL_law_875 : decode cL_law 875 = .ok (.iload_n 3, 1) := dl_at bL_872_50 3 rfl
theorem dL_law_876 : decode cL_law 876 = .ok (.iconst 1, 1) := dl_at bL_872_50 4 rfl
theorem dL_law_877 : decode cL_law 877 = .ok (.iadd, 1) := dl_at bL_872_50 5 rfl
theorem dL_law_878 : decode cL_law 878 = .ok (.iaload, 1) := dl_at bL_872_50 6 rfl
theorem dL_law_879 : decode cL_law 879 = .ok (.aload_n 0, 1) := dl_at bL_872_50 7 rfl
theorem dL_law_880 : decode cL_law 880 = .ok (.iload_n 3, 1) := dl_at bL_872_50 8 rfl
theorem dL_law_881 : decode cL_law 881 = .ok (.iconst 2, 1) := dl_at bL_872_50 9 rfl
theorem dL_law_882 : decode cL_law 882 = .ok (.iadd, 1) := dl_at bL_872_50 10 rfl
theorem dL_law_883 : decode cL_law 883 = .ok (.iaload, 1) := dl_at bL_872_50 11 rfl
theorem dL_law_884 : decode cL_law 884 = .ok (.aload_n 0, 1) := dl_at bL_872_50 12 rfl
theorem dL_law_885 : decode cL_law 885 = .ok (.iload_n 3, 1) := dl_at bL_872_50 13 rfl
theorem dL_law_886 : decode cL_law 886 = .ok (.iconst 3, 1) := dl_at bL_872_50 14 rfl
theorem dL_law_887 : decode cL_law 887 = .ok (.iadd, 1) := dl_at bL_872_50 15 rfl
theorem dL_law_888 : decode cL_law 888 = .ok (.iaload, 1) := dl_at bL_872_50 16 rfl
theorem dL_law_889 : decode cL_law 889 = .ok (.invokevirtual 105, 3) := dl_at bL_872_50 17 rfl
theorem dL_law_892 : decode cL_law 892 = .ok (.pop, 1) := dl_at bL_872_50 18 rfl
theorem dL_law_893 : decode cL_law 893 = .ok (.goto 303, 3) := dl_at bL_872_50 19 rfl
theorem dL_law_896 : decode cL_law 896 = .ok (.aload_n 1, 1) := dl_at bL_872_50 20 rfl
theorem dL_law_897 : decode cL_law 897 = .ok (.aload_n 0, 1) := dl_at bL_872_50 21 rfl
theorem dL_law_898 : decode cL_law 898 = .ok (.iload_n 3, 1) := dl_at bL_872_50 22 rfl
theorem dL_law_899 : decode cL_law 899 = .ok (.iconst 1, 1) := dl_at bL_872_50 23 rfl
theorem dL_law_900 : decode cL_law 900 = .ok (.iadd, 1) := dl_at bL_872_50 24 rfl
theorem dL_law_901 : decode cL_law 901 = .ok (.iaload, 1) := dl_at bL_872_50 25 rfl
theorem dL_law_902 : decode cL_law 902 = .ok (.invokevirtual 106, 3) := dl_at bL_872_50 26 rfl
theorem dL_law_905 : decode cL_law 905 = .ok (.pop, 1) := dl_at bL_872_50 27 rfl
theorem dL_law_906 : decode cL_law 906 = .ok (.aload_n 2, 1) := dl_at bL_872_50 28 rfl
theorem dL_law_907 : decode cL_law 907 = .ok (.aload_n 0, 1) := dl_at bL_872_50 29 rfl
theorem dL_law_908 : decode cL_law 908 = .ok (.iload_n 3, 1) := dl_at bL_872_50 30 rfl
theorem dL_law_909 : decode cL_law 909 = .ok (.iconst 1, 1) := dl_at bL_872_50 31 rfl
theorem dL_law_910 : decode cL_law 910 = .ok (.iadd, 1) := dl_at bL_872_50 32 rfl
theorem dL_law_911 : decode cL_law 911 = .ok (.iaload, 1) := dl_at bL_872_50 33 rfl
theorem dL_law_912 : decode cL_law 912 = .ok (.invokevirtual 109, 3) := dl_at bL_872_50 34 rfl
theorem dL_law_915 : decode cL_law 915 = .ok (.pop, 1) := dl_at bL_872_50 35 rfl
theorem dL_law_916 : decode cL_law 916 = .ok (.goto 280, 3) := dl_at bL_872_50 36 rfl
theorem dL_law_919 : decode cL_law 919 = .ok (.aload_n 1, 1) := dl_at bL_872_50 37 rfl
theorem dL_law_920 : decode cL_law 920 = .ok (.aload_n 0, 1) := dl_at bL_872_50 38 rfl
theorem dL_law_921 : decode cL_law 921 = .ok (.iload_n 3, 1) := dl_at bL_872_50 39 rfl
theorem dL_law_922 : decode cL_law 922 = .ok (.iconst 1, 1) := dl_at bL_872_50 40 rfl
theorem dL_law_923 : decode cL_law 923 = .ok (.iadd, 1) := dl_at bL_872_50 41 rfl
theorem dL_law_924 : decode cL_law 924 = .ok (.iaload, 1) := dl_at bL_872_50 42 rfl
theorem dL_law_925 : decode cL_law 925 = .ok (.aload_n 0, 1) := dl_at bL_872_50 43 rfl
theorem dL_law_926 : decode cL_law 926 = .ok (.iload_n 3, 1) := dl_at bL_872_50 44 rfl
theorem dL_law_927 : decode cL_law 927 = .ok (.iconst 2, 1) := dl_at bL_872_50 45 rfl
theorem dL_law_928 : decode cL_law 928 = .ok (.iadd, 1) := dl_at bL_872_50 46 rfl
theorem dL_law_929 : decode cL_law 929 = .ok (.iaload, 1) := dl_at bL_872_50 47 rfl
theorem dL_law_930 : decode cL_law 930 = .ok (.aload_n 0, 1) := dl_at bL_872_50 48 rfl
theorem dL_law_931 : decode cL_law 931 = .ok (.iload_n 3, 1) := dl_at bL_872_50 49 rfl
def lL_932_50 : List (Nat × Instr × Nat) := [(932, .iconst 3, 1), (933, .iadd, 1), (934, .iaload, 1), (935, .invokevirtual 110, 3), (938, .pop, 1), (939, .aload_n 2, 1), (940, .aload_n 0, 1), (941, .iload_n 3, 1), (942, .iconst 1, 1), (943, .iadd, 1), (944, .iaload, 1), (945, .aload_n 0, 1), (946, .iload_n 3, 1), (947, .iconst 2, 1), (948, .iadd, 1), (949, .iaload, 1), (950, .aload_n 0, 1), (951, .iload_n 3, 1), (952, .iconst 3, 1), (953, .iadd, 1), (954, .iaload, 1), (955, .invokevirtual 113, 3), (958, .pop, 1), (959, .goto 237, 3), (962, .aload_n 1, 1), (963, .aload_n 0, 1), (964, .iload_n 3, 1), (965, .iconst 1, 1), (966, .iadd, 1), (967, .iaload, 1), (968, .aload_n 0, 1), (969, .iload_n 3, 1), (970, .iconst 2, 1), (971, .iadd, 1), (972, .iaload, 1), (973, .aload_n 0, 1), (974, .iload_n 3, 1), (975, .iconst 3, 1), (976, .iadd, 1), (977, .iaload, 1), (978, .invokevirtual 114, 3), (981, .pop2, 1), (982, .aload_n 2, 1), (983, .aload_n 0, 1), (984, .iload_n 3, 1), (985, .iconst 1, 1), (986, .iadd, 1), (987, .iaload, 1), (988, .aload_n 0, 1), (989, .iload_n 3, 1)]
theorem bL_932_50 : lL_932_50.all (dOK cL_law) = true := by decide +kernel
theorem dL_law_932 : decode cL_law 932 = .ok (.iconst 3, 1) := dl_at bL_932_50 0 rfl
theorem dL_law_933 : decode cL_law 933 = .ok (.iadd, 1) := dl_at bL_932_50 1 rfl
theorem dL_law_934 : decode cL_law 934 = .ok (.iaload, 1) := dl_at bL_932_50 2 rfl
theorem dL_law_935 : decode cL_law 935 = .ok (.invokevirtual 110, 3) := dl_at bL_932_50 3 rfl
theorem dL_law_938 : decode cL_law 938 = .ok (.pop, 1) := dl_at bL_932_50 4 rfl
theorem dL_law_939 : decode cL_law 939 = .ok (.aload_n 2, 1) := dl_at bL_932_50 5 rfl
theorem dL_law_940 : decode cL_law 940 = .ok (.aload_n 0, 1) := dl_at bL_932_50 6 rfl
theorem dL_law_941 : decode cL_law 941 = .ok (.iload_n 3, 1) := dl_at bL_932_50 7 rfl
theorem dL_law_942 : decode cL_law 942 = .ok (.iconst 1, 1) := dl_at bL_932_50 8 rfl
theorem dL_law_943 : decode cL_law 943 = .ok (.iadd, 1) := dl_at bL_932_50 9 rfl
theorem dL_law_944 : decode cL_law 944 = .ok (.iaload, 1) := dl_at bL_932_50 10 rfl
theorem dL_law_945 : decode cL_law 945 = .ok (.aload_n 0, 1) := dl_at bL_932_50 11 rfl
theorem dL_law_946 : decode cL_law 946 = .ok (.iload_n 3, 1) := dl_at bL_932_50 12 rfl
theorem dL_law_947 : decode cL_law 947 = .ok (.iconst 2, 1) := dl_at bL_932_50 13 rfl
theorem dL_law_948 : decode cL_law 948 = .ok (.iadd, 1) := dl_at bL_932_50 14 rfl
theorem dL_law_949 : decode cL_law 949 = .ok (.iaload, 1) := dl_at bL_932_50 15 rfl
theorem dL_law_950 : decode cL_law 950 = .ok (.aload_n 0, 1) := dl_at bL_932_50 16 rfl
theorem dL_law_951 : decode cL_law 951 = .ok (.iload_n 3, 1) := dl_at bL_932_50 17 rfl
theorem dL_law_952 : decode cL_law 952 = .ok (.iconst 3, 1) := dl_at bL_932_50 18 rfl
theorem dL_law_953 : decode cL_law 953 = .ok (.iadd, 1) := dl_at bL_932_50 19 rfl
theorem dL_law_954 : decode cL_law 954 = .ok (.iaload, 1) := dl_at bL_932_50 20 rfl
theorem dL_law_955 : decode cL_law 955 = .ok (.invokevirtual 113, 3) := dl_at bL_932_50 21 rfl
theorem dL_law_958 : decode cL_law 958 = .ok (.pop, 1) := dl_at bL_932_50 22 rfl
theorem dL_law_959 : decode cL_law 959 = .ok (.goto 237, 3) := dl_at bL_932_50 23 rfl
theorem dL_law_962 : decode cL_law 962 = .ok (.aload_n 1, 1) := dl_at bL_932_50 24 rfl
theorem dL_law_963 : decode cL_law 963 = .ok (.aload_n 0, 1) := dl_at bL_932_50 25 rfl
theorem dL_law_964 : decode cL_law 964 = .ok (.iload_n 3, 1) := dl_at bL_932_50 26 rfl
theorem dL_law_965 : decode cL_law 965 = .ok (.iconst 1, 1) := dl_at bL_932_50 27 rfl
theorem dL_law_966 : decode cL_law 966 = .ok (.iadd, 1) := dl_at bL_932_50 28 rfl
theorem dL_law_967 : decode cL_law 967 = .ok (.iaload, 1) := dl_at bL_932_50 29 rfl
theorem dL_law_968 : decode cL_law 968 = .ok (.aload_n 0, 1) := dl_at bL_932_50 30 rfl
theorem dL_law_969 : decode cL_law 969 = .ok (.iload_n 3, 1) := dl_at bL_932_50 31 rfl
theorem dL_law_970 : decode cL_law 970 = .ok (.iconst 2, 1) := dl_at bL_932_50 32 rfl
theorem dL_law_971 : decode cL_law 971 = .ok (.iadd, 1) := dl_at bL_932_50 33 rfl
theorem dL_law_972 : decode cL_law 972 = .ok (.iaload, 1) := dl_at bL_932_50 34 rfl
theorem dL_law_973 : decode cL_law 973 = .ok (.aload_n 0, 1) := dl_at bL_932_50 35 rfl
theorem dL_law_974 : decode cL_law 974 = .ok (.iload_n 3, 1) := dl_at bL_932_50 36 rfl
theorem dL_law_975 : decode cL_law 975 = .ok (.iconst 3, 1) := dl_at bL_932_50 37 rfl
theorem dL_law_976 : decode cL_law 976 = .ok (.iadd, 1) := dl_at bL_932_50 38 rfl
theorem dL_law_977 : decode cL_law 977 = .ok (.iaload, 1) := dl_at bL_932_50 39 rfl
theorem dL_law_978 : decode cL_law 978 = .ok (.invokevirtual 114, 3) := dl_at bL_932_50 40 rfl
theorem dL_law_981 : decode cL_law 981 = .ok (.pop2, 1) := dl_at bL_932_50 41 rfl
theorem dL_law_982 : decode cL_law 982 = .ok (.aload_n 2, 1) := dl_at bL_932_50 42 rfl
theorem dL_law_983 : decode cL_law 983 = .ok (.aload_n 0, 1) := dl_at bL_932_50 43 rfl
theorem dL_law_984 : decode cL_law 984 = .ok (.iload_n 3, 1) := dl_at bL_932_50 44 rfl
theorem dL_law_985 : decode cL_law 985 = .ok (.iconst 1, 1) := dl_at bL_932_50 45 rfl
theorem dL_law_986 : decode cL_law 986 = .ok (.iadd, 1) := dl_at bL_932_50 46 rfl
theorem dL_law_987 : decode cL_law 987 = .ok (.iaload, 1) := dl_at bL_932_50 47 rfl
theorem dL_law_988 : decode cL_law 988 = .ok (.aload_n 0, 1) := dl_at bL_932_50 48 rfl
theorem dL_law_989 : decode cL_law 989 = .ok (.iload_n 3, 1) := dl_at bL_932_50 49 rfl
def lL_990_50 : List (Nat × Instr × Nat) := [(990, .iconst 2, 1), (991, .iadd, 1), (992, .iaload, 1), (993, .aload_n 0, 1), (994, .iload_n 3, 1), (995, .iconst 3, 1), (996, .iadd, 1), (997, .iaload, 1), (998, .invokevirtual 117, 3), (1001, .pop2, 1), (1002, .goto 194, 3), (1005, .aload_n 1, 1), (1006, .aload_n 0, 1), (1007, .iload_n 3, 1), (1008, .iconst 1, 1), (1009, .iadd, 1), (1010, .iaload, 1), (1011, .aload_n 0, 1), (1012, .iload_n 3, 1), (1013, .iconst 2, 1), (1014, .iadd, 1), (1015, .iaload, 1), (1016, .aload_n 0, 1), (1017, .iload_n 3, 1), (1018, .iconst 3, 1), (1019, .iadd, 1), (1020, .iaload, 1), (1021, .aload_n 0, 1), (1022, .iload_n 3, 1), (1023, .iconst 4, 1), (1024, .iadd, 1), (1025, .iaload, 1), (1026, .aload_n 0, 1), (1027, .iload_n 3, 1), (1028, .iconst 5, 1), (1029, .iadd, 1), (1030, .iaload, 1), (1031, .invokevirtual 118, 3), (1034, .pop, 1), (1035, .aload_n 2, 1), (1036, .aload_n 0, 1), (1037, .iload_n 3, 1), (1038, .iconst 1, 1), (1039, .iadd, 1), (1040, .iaload, 1), (1041, .aload_n 0, 1), (1042, .iload_n 3, 1), (1043, .iconst 2, 1), (1044, .iadd, 1), (1045, .iaload, 1)]
theorem bL_990_50 : lL_990_50.all (dOK cL_law) = true := by decide +kernel
theorem dL_law_990 : decode cL_law 990 = .ok (.iconst 2, 1) := dl_at bL_990_50 0 rfl
theorem dL_law_991 : decode cL_law 991 = .ok (.iadd, 1) := dl_at bL_990_50 1 rfl
theorem dL_law_992 : decode cL_law 992 = .ok (.iaload, 1) := dl_at bL_990_50 2 rfl
theorem dL_law_993 : decode cL_law 993 = .ok (.aload_n 0, 1) := dl_at bL_990_50 3 rfl
theorem dL_law_994 : decode cL_law 994 = .ok (.iload_n 3, 1) := dl_at bL_990_50 4 rfl
theorem dL_law_995 : decode cL_law 995 = .ok (.iconst 3, 1) := dl_at bL_990_50 5 rfl
theorem dL_law_996 : decode cL_law 996 = .ok (.iadd, 1) := dl_at bL_990_50 6 rfl
theorem dL_law_997 : decode cL_law 997 = .ok (.iaload, 1) := dl_at bL_990_50 7 rfl
theorem dL_law_998 : decode cL_law 998 = .ok (.invokevirtual 117, 3) := dl_at bL_990_50 8 rfl
theorem dL_law_1001 : decode cL_law 1001 = .ok (.pop2, 1) := dl_at bL_990_50 9 rfl
theorem dL_law_1002 : decode cL_law 1002 = .ok (.goto 194, 3) := dl_at bL_990_50 10 rfl
theorem dL_law_1005 : decode cL_law 1005 = .ok (.aload_n 1, 1) := dl_at bL_990_50 11 rfl
theorem dL_law_1006 : decode cL_law 1006 = .ok (.aload_n 0, 1) := dl_at bL_990_50 12 rfl
theorem dL_law_1007 : decode cL_law 1007 = .ok (.iload_n 3, 1) := dl_at bL_990_50 13 rfl
theorem dL_law_1008 : decode cL_law 1008 = .ok (.iconst 1, 1) := dl_at bL_990_50 14 rfl
theorem dL_law_1009 : decode cL_law 1009 = .ok (.iadd, 1) := dl_at bL_990_50 15 rfl
theorem dL_law_1010 : decode cL_law 1010 = .ok (.iaload, 1) := dl_at bL_990_50 16 rfl
theorem dL_law_1011 : decode cL_law 1011 = .ok (.aload_n 0, 1) := dl_at bL_990_50 17 rfl
theorem dL_law_1012 : decode cL_law 1012 = .ok (.iload_n 3, 1) := dl_at bL_990_50 18 rfl
theorem dL_law_1013 : decode cL_law 1013 = .ok (.iconst 2, 1) := dl_at bL_990_50 19 rfl
theorem dL_law_1014 : decode cL_law 1014 = .ok (.iadd, 1) := dl_at bL_990_50 20 rfl
theorem dL_law_1015 : decode cL_law 1015 = .ok (.iaload, 1) := dl_at bL_990_50 21 rfl
theorem dL_law_1016 : decode cL_law 1016 = .ok (.aload_n 0, 1) := dl_at bL_990_50 22 rfl
theorem dL_law_1017 : decode cL_law 1017 = .ok (.iload_n 3, 1) := dl_at bL_990_50 23 rfl
theorem dL_law_1018 : decode cL_law 1018 = .ok (.iconst 3, 1) := dl_at bL_990_50 24 rfl
theorem dL_law_1019 : decode cL_law 1019 = .ok (.iadd, 1) := dl_at bL_990_50 25 rfl
theorem dL_law_1020 : decode cL_law 1020 = .ok (.iaload, 1) := dl_at bL_990_50 26 rfl
theorem dL_law_1021 : decode cL_law 1021 = .ok (.aload_n 0, 1) := dl_at bL_990_50 27 rfl
theorem dL_law_1022 : decode cL_law 1022 = .ok (.iload_n 3, 1) := dl_at bL_990_50 28 rfl
theorem dL_law_1023 : decode cL_law 1023 = .ok (.iconst 4, 1) := dl_at bL_990_50 29 rfl
theorem dL_law_1024 : decode cL_law 1024 = .ok (.iadd, 1) := dl_at bL_990_50 30 rfl
theorem dL_law_1025 : decode cL_law 1025 = .ok (.iaload, 1) := dl_at bL_990_50 31 rfl
theorem dL_law_1026 : decode cL_law 1026 = .ok (.aload_n 0, 1) := dl_at bL_990_50 32 rfl
theorem dL_law_1027 : decode cL_law 1027 = .ok (.iload_n 3, 1) := dl_at bL_990_50 33 rfl
theorem dL_law_1028 : decode cL_law 1028 = .ok (.iconst 5, 1) := dl_at bL_990_50 34 rfl
theorem dL_law_1029 : decode cL_law 1029 = .ok (.iadd, 1) := dl_at bL_990_50 35 rfl
theorem dL_law_1030 : decode cL_law 1030 = .ok (.iaload, 1) := dl_at bL_990_50 36 rfl
theorem dL_law_1031 : decode cL_law 1031 = .ok (.invokevirtual 118, 3) := dl_at bL_990_50 37 rfl
theorem dL_law_1034 : decode cL_law 1034 = .ok (.pop, 1) := dl_at bL_990_50 38 rfl
theorem dL_law_1035 : decode cL_law 1035 = .ok (.aload_n 2, 1) := dl_at bL_990_50 39 rfl
theorem dL_law_1036 : decode cL_law 1036 = .ok (.aload_n 0, 1) := dl_at bL_990_50 40 rfl
theorem dL_law_1037 : decode cL_law 1037 = .ok (.iload_n 3, 1) := dl_at bL_990_50 41 rfl
theorem dL_law_1038 : decode cL_law 1038 = .ok (.iconst 1, 1) := dl_at bL_990_50 42 rfl
theorem dL_law_1039 : decode cL_law 1039 = .ok (.iadd, 1) := dl_at bL_990_50 43 rfl
theorem dL_law_1040 : decode cL_law 1040 = .ok (.iaload, 1) := dl_at bL_990_50 44 rfl
theorem dL_law_1041 : decode cL_law 1041 = .ok (.aload_n 0, 1) := dl_at bL_990_50 45 rfl
theorem dL_law_1042 : decode cL_law 1042 = .ok (.iload_n 3, 1) := dl_at bL_990_50 46 rfl
theorem dL_law_1043 : decode cL_law 1043 = .ok (.iconst 2, 1) := dl_at bL_990_50 47 rfl
theorem dL_law_1044 : decode cL_law 1044 = .ok (.iadd, 1) := dl_at bL_990_50 48 rfl
theorem dL_law_1045 : decode cL_law 1045 = .ok (.iaload, 1) := dl_at bL_990_50 49 rfl
def lL_1046_50 : List (Nat × Instr × Nat) := [(1046, .aload_n 0, 1), (1047, .iload_n 3, 1), (1048, .iconst 3, 1), (1049, .iadd, 1), (1050, .iaload, 1), (1051, .aload_n 0, 1), (1052, .iload_n 3, 1), (1053, .iconst 4, 1), (1054, .iadd, 1), (1055, .iaload, 1), (1056, .aload_n 0, 1), (1057, .iload_n 3, 1), (1058, .iconst 5, 1), (1059, .iadd, 1), (1060, .iaload, 1), (1061, .invokevirtual 121, 3), (1064, .pop, 1), (1065, .goto 131, 3), (1068, .aload_n 1, 1), (1069, .aload_n 0, 1), (1070, .iload_n 3, 1), (1071, .iconst 1, 1), (1072, .iadd, 1), (1073, .iaload, 1), (1074, .invokevirtual 122, 3), (1077, .pop, 1), (1078, .aload_n 2, 1), (1079, .aload_n 0, 1), (1080, .iload_n 3, 1), (1081, .iconst 1, 1), (1082, .iadd, 1), (1083, .iaload, 1), (1084, .invokevirtual 125, 3), (1087, .pop, 1), (1088, .goto 108, 3), (1091, .aload_n 1, 1), (1092, .aload_n 0, 1), (1093, .iload_n 3, 1), (1094, .iconst 1, 1), (1095, .iadd, 1), (1096, .iaload, 1), (1097, .invokevirtual 126, 3), (1100, .pop, 1), (1101, .aload_n 2, 1), (1102, .aload_n 0, 1), (1103, .iload_n 3, 1), (1104, .iconst 1, 1), (1105, .iadd, 1), (1106, .iaload, 1), (1107, .invokevirtual 129, 3)]
theorem bL_1046_50 : lL_1046_50.all (dOK cL_law) = true := by decide +kernel
theorem dL_law_1046 : decode cL_law 1046 = .ok (.aload_n 0, 1) := dl_at bL_1046_50 0 rfl
theorem dL_law_1047 : decode cL_law 1047 = .ok (.iload_n 3, 1) := dl_at bL_1046_50 1 rfl
theorem dL_law_1048 : decode cL_law 1048 = .ok (.iconst 3, 1) := dl_at bL_1046_50 2 rfl
theorem dL_law_1049 : decode cL_law 1049 = .ok (.iadd, 1) := dl_at bL_1046_50 3 rfl
theorem dL_law_1050 : decode cL_law 1050 = .ok (.iaload, 1) := dl_at bL_1046_50 4 rfl
theorem dL_law_1051 : decode cL_law 1051 = .ok (.aload_n 0, 1) := dl_at bL_1046_50 5 rfl
theorem dL_law_1052 : decode cL_law 1052 = .ok (.iload_n 3, 1) := dl_at bL_1046_50 6 rfl
theorem dL_law_1053 : decode cL_law 1053 = .ok (.iconst 4, 1) := dl_at bL_1046_50 7 rfl
theorem dL_law_1054 : decode cL_law 1054 = .ok (.iadd, 1) := dl_at bL_1046_50 8 rfl
theorem dL_law_1055 : decode cL_law 1055 = .ok (.iaload, 1) := dl_at bL_1046_50 9 rfl
theorem dL_law_1056 : decode cL_law 1056 = .ok (.aload_n 0, 1) := dl_at bL_1046_50 10 rfl
theorem dL_law_1057 : decode cL_law 1057 = .ok (.iload_n 3, 1) := dl_at bL_1046_50 11 rfl
theorem dL_law_1058 : decode cL_law 1058 = .ok (.iconst 5, 1) := dl_at bL_1046_50 12 rfl
theorem dL_law_1059 : decode cL_law 1059 = .ok (.iadd, 1) := dl_at bL_1046_50 13 rfl
theorem dL_law_1060 : decode cL_law 1060 = .ok (.iaload, 1) := dl_at bL_1046_50 14 rfl
theorem dL_law_1061 : decode cL_law 1061 = .ok (.invokevirtual 121, 3) := dl_at bL_1046_50 15 rfl
theorem dL_law_1064 : decode cL_law 1064 = .ok (.pop, 1) := dl_at bL_1046_50 16 rfl
theorem dL_law_1065 : decode cL_law 1065 = .ok (.goto 131, 3) := dl_at bL_1046_50 17 rfl
theorem dL_law_1068 : decode cL_law 1068 = .ok (.aload_n 1, 1) := dl_at bL_1046_50 18 rfl
theorem dL_law_1069 : decode cL_law 1069 = .ok (.aload_n 0, 1) := dl_at bL_1046_50 19 rfl
theorem dL_law_1070 : decode cL_law 1070 = .ok (.iload_n 3, 1) := dl_at bL_1046_50 20 rfl
theorem dL_law_1071 : decode cL_law 1071 = .ok (.iconst 1, 1) := dl_at bL_1046_50 21 rfl
theorem dL_law_1072 : decode cL_law 1072 = .ok (.iadd, 1) := dl_at bL_1046_50 22 rfl
theorem dL_law_1073 : decode cL_law 1073 = .ok (.iaload, 1) := dl_at bL_1046_50 23 rfl
theorem dL_law_1074 : decode cL_law 1074 = .ok (.invokevirtual 122, 3) := dl_at bL_1046_50 24 rfl
theorem dL_law_1077 : decode cL_law 1077 = .ok (.pop, 1) := dl_at bL_1046_50 25 rfl
theorem dL_law_1078 : decode cL_law 1078 = .ok (.aload_n 2, 1) := dl_at bL_1046_50 26 rfl
theorem dL_law_1079 : decode cL_law 1079 = .ok (.aload_n 0, 1) := dl_at bL_1046_50 27 rfl
theorem dL_law_1080 : decode cL_law 1080 = .ok (.iload_n 3, 1) := dl_at bL_1046_50 28 rfl
theorem dL_law_1081 : decode cL_law 1081 = .ok (.iconst 1, 1) := dl_at bL_1046_50 29 rfl
theorem dL_law_1082 : decode cL_law 1082 = .ok (.iadd, 1) := dl_at bL_1046_50 30 rfl
theorem dL_law_1083 : decode cL_law 1083 = .ok (.iaload, 1) := dl_at bL_1046_50 31 rfl
theorem dL_law_1084 : decode cL_law 1084 = .ok (.invokevirtual 125, 3) := dl_at bL_1046_50 32 rfl
theorem dL_law_1087 : decode cL_law 1087 = .ok (.pop, 1) := dl_at bL_1046_50 33 rfl
theorem dL_law_1088 : decode cL_law 1088 = .ok (.goto 108, 3) := dl_at bL_1046_50 34 rfl
theorem dL_law_1091 : decode cL_law 1091 = .ok (.aload_n 1, 1) := dl_at bL_1046_50 35 rfl
theorem dL_law_1092 : decode cL_law 1092 = .ok (.aload_n 0, 1) := dl_at bL_1046_50 36 rfl
theorem dL_law_1093 : decode cL_law 1093 = .ok (.iload_n 3, 1) := dl_at bL_1046_50 37 rfl
theorem dL_law_1094 : decode cL_law 1094 = .ok (.iconst 1, 1) := dl_at bL_1046_50 38 rfl
theorem dL_law_1095 : decode cL_law 1095 = .ok (.iadd, 1) := dl_at bL_1046_50 39 rfl
theorem dL_law_1096 : decode cL_law 1096 = .ok (.iaload, 1) := dl_at bL_1046_50 40 rfl
theorem dL_law_1097 : decode cL_law 1097 = .ok (.invokevirtual 126, 3) := dl_at bL_1046_50 41 rfl
theorem dL_law_1100 : decode cL_law 1100 = .ok (.pop, 1) := dl_at bL_1046_50 42 rfl
theorem dL_law_1101 : decode cL_law 1101 = .ok (.aload_n 2, 1) := dl_at bL_1046_50 43 rfl
theorem dL_law_1102 : decode cL_law 1102 = .ok (.aload_n 0, 1) := dl_at bL_1046_50 44 rfl
theorem dL_law_1103 : decode cL_law 1103 = .ok (.iload_n 3, 1) := dl_at bL_1046_50 45 rfl
theorem dL_law_1104 : decode cL_law 1104 = .ok (.iconst 1, 1) := dl_at bL_1046_50 46 rfl
theorem dL_law_1105 : decode cL_law 1105 = .ok (.iadd, 1) := dl_at bL_1046_50 47 rfl
theorem dL_law_1106 : decode cL_law 1106 = .ok (.iaload, 1) := dl_at bL_1046_50 48 rfl
theorem dL_law_1107 : decode cL_law 1107 = .ok (.invokevirtual 129, 3) := dl_at bL_1046_50 49 rfl
def lL_1110_50 : List (Nat × Instr × Nat) := [(1110, .pop, 1), (1111, .goto 85, 3), (1114, .aload_n 1, 1), (1115, .aload_n 0, 1), (1116, .iload_n 3, 1), (1117, .iconst 1, 1), (1118, .iadd, 1), (1119, .iaload, 1), (1120, .aload_n 0, 1), (1121, .iload_n 3, 1), (1122, .iconst 2, 1), (1123, .iadd, 1), (1124, .iaload, 1), (1125, .invokevirtual 130, 3), (1128, .pop, 1), (1129, .aload_n 2, 1), (1130, .aload_n 0, 1), (1131, .iload_n 3, 1), (1132, .iconst 1, 1), (1133, .iadd, 1), (1134, .iaload, 1), (1135, .aload_n 0, 1), (1136, .iload_n 3, 1), (1137, .iconst 2, 1), (1138, .iadd, 1), (1139, .iaload, 1), (1140, .invokevirtual 133, 3), (1143, .pop, 1), (1144, .goto 52, 3), (1147, .aload_n 1, 1), (1148, .invokevirtual 134, 3), (1151, .pop, 1), (1152, .aload_n 2, 1), (1153, .invokevirtual 137, 3), (1156, .pop, 1), (1157, .goto 39, 3), (1160, .aload_n 1, 1), (1161, .invokevirtual 138, 3), (1164, .pop, 1), (1165, .aload_n 2, 1), (1166, .invokevirtual 141, 3), (1169, .pop, 1), (1170, .goto 26, 3), (1173, .aload_n 1, 1), (1174, .aload_n 0, 1), (1175, .iload_n 3, 1), (1176, .iconst 1, 1), (1177, .iadd, 1), (1178, .iaload, 1), (1179, .invokevirtual 142, 3)]
theorem bL_1110_50 : lL_1110_50.all (dOK cL_law) = true := by decide +kernel
theorem dL_law_1110 : decode cL_law 1110 = .ok (.pop, 1) := dl_at bL_1110_50 0 rfl
theorem dL_law_1111 : decode cL_law 1111 = .ok (.goto 85, 3) := dl_at bL_1110_50 1 rfl
theorem dL_law_1114 : decode cL_law 1114 = .ok (.aload_n 1, 1) := dl_at bL_1110_50 2 rfl
theorem dL_law_1115 : decode cL_law 1115 = .ok (.aload_n 0, 1) := dl_at bL_1110_50 3 rfl
theorem dL_law_1116 : decode cL_law 1116 = .ok (.iload_n 3, 1) := dl_at bL_1110_50 4 rfl
theorem dL_law_1117 : decode cL_law 1117 = .ok (.iconst 1, 1) := dl_at bL_1110_50 5 rfl
theorem dL_law_1118 : decode cL_law 1118 = .ok (.iadd, 1) := dl_at bL_1110_50 6 rfl
theorem dL_law_1119 : decode cL_law 1119 = .ok (.iaload, 1) := dl_at bL_1110_50 7 rfl
theorem dL_law_1120 : decode cL_law 1120 = .ok (.aload_n 0, 1) := dl_at bL_1110_50 8 rfl
theorem dL_law_1121 : decode cL_law 1121 = .ok (.iload_n 3, 1) := dl_at bL_1110_50 9 rfl
theorem dL_law_1122 : decode cL_law 1122 = .ok (.iconst 2, 1) := dl_at bL_1110_50 10 rfl
theorem dL_law_1123 : decode cL_law 1123 = .ok (.iadd, 1) := dl_at bL_1110_50 11 rfl
theorem dL_law_1124 : decode cL_law 1124 = .ok (.iaload, 1) := dl_at bL_1110_50 12 rfl
theorem dL_law_1125 : decode cL_law 1125 = .ok (.invokevirtual 130, 3) := dl_at bL_1110_50 13 rfl
theorem dL_law_1128 : decode cL_law 1128 = .ok (.pop, 1) := dl_at bL_1110_50 14 rfl
theorem dL_law_1129 : decode cL_law 1129 = .ok (.aload_n 2, 1) := dl_at bL_1110_50 15 rfl
theorem dL_law_1130 : decode cL_law 1130 = .ok (.aload_n 0, 1) := dl_at bL_1110_50 16 rfl
theorem dL_law_1131 : decode cL_law 1131 = .ok (.iload_n 3, 1) := dl_at bL_1110_50 17 rfl
theorem dL_law_1132 : decode cL_law 1132 = .ok (.iconst 1, 1) := dl_at bL_1110_50 18 rfl
theorem dL_law_1133 : decode cL_law 1133 = .ok (.iadd, 1) := dl_at bL_1110_50 19 rfl
theorem dL_law_1134 : decode cL_law 1134 = .ok (.iaload, 1) := dl_at bL_1110_50 20 rfl
theorem dL_law_1135 : decode cL_law 1135 = .ok (.aload_n 0, 1) := dl_at bL_1110_50 21 rfl
theorem dL_law_1136 : decode cL_law 1136 = .ok (.iload_n 3, 1) := dl_at bL_1110_50 22 rfl
theorem dL_law_1137 : decode cL_law 1137 = .ok (.iconst 2, 1) := dl_at bL_1110_50 23 rfl
theorem dL_law_1138 : decode cL_law 1138 = .ok (.iadd, 1) := dl_at bL_1110_50 24 rfl
theorem dL_law_1139 : decode cL_law 1139 = .ok (.iaload, 1) := dl_at bL_1110_50 25 rfl
theorem dL_law_1140 : decode cL_law 1140 = .ok (.invokevirtual 133, 3) := dl_at bL_1110_50 26 rfl
theorem dL_law_1143 : decode cL_law 1143 = .ok (.pop, 1) := dl_at bL_1110_50 27 rfl
theorem dL_law_1144 : decode cL_law 1144 = .ok (.goto 52, 3) := dl_at bL_1110_50 28 rfl
theorem dL_law_1147 : decode cL_law 1147 = .ok (.aload_n 1, 1) := dl_at bL_1110_50 29 rfl
theorem dL_law_1148 : decode cL_law 1148 = .ok (.invokevirtual 134, 3) := dl_at bL_1110_50 30 rfl
theorem dL_law_1151 : decode cL_law 1151 = .ok (.pop, 1) := dl_at bL_1110_50 31 rfl
theorem dL_law_1152 : decode cL_law 1152 = .ok (.aload_n 2, 1) := dl_at bL_1110_50 32 rfl
theorem dL_law_1153 : decode cL_law 1153 = .ok (.invokevirtual 137, 3) := dl_at bL_1110_50 33 rfl
theorem dL_law_1156 : decode cL_law 1156 = .ok (.pop, 1) := dl_at bL_1110_50 34 rfl
theorem dL_law_1157 : decode cL_law 1157 = .ok (.goto 39, 3) := dl_at bL_1110_50 35 rfl
theorem dL_law_1160 : decode cL_law 1160 = .ok (.aload_n 1, 1) := dl_at bL_1110_50 36 rfl
theorem dL_law_1161 : decode cL_law 1161 = .ok (.invokevirtual 138, 3) := dl_at bL_1110_50 37 rfl
theorem dL_law_1164 : decode cL_law 1164 = .ok (.pop, 1) := dl_at bL_1110_50 38 rfl
theorem dL_law_1165 : decode cL_law 1165 = .ok (.aload_n 2, 1) := dl_at bL_1110_50 39 rfl
theorem dL_law_1166 : decode cL_law 1166 = .ok (.invokevirtual 141, 3) := dl_at bL_1110_50 40 rfl
theorem dL_law_1169 : decode cL_law 1169 = .ok (.pop, 1) := dl_at bL_1110_50 41 rfl
theorem dL_law_1170 : decode cL_law 1170 = .ok (.goto 26, 3) := dl_at bL_1110_50 42 rfl
theorem dL_law_1173 : decode cL_law 1173 = .ok (.aload_n 1, 1) := dl_at bL_1110_50 43 rfl
theorem dL_law_1174 : decode cL_law 1174 = .ok (.aload_n 0, 1) := dl_at bL_1110_50 44 rfl
theorem dL_law_1175 : decode cL_law 1175 = .ok (.iload_n 3, 1) := dl_at bL_1110_50 45 rfl
theorem dL_law_1176 : decode cL_law 1176 = .ok (.iconst 1, 1) := dl_at bL_1110_50 46 rfl
theorem dL_law_1177 : decode cL_law 1177 = .ok (.iadd, 1) := dl_at bL_1110_50 47 rfl
theorem dL_law_1178 : decode cL_law 1178 = .ok (.iaload, 1) := dl_at bL_1110_50 48 rfl
theorem dL_law_1179 : decode cL_law 1179 = .ok (.invokevirtual 142, 3) := dl_at bL_1110_50 49 rfl
def lL_1182_14 : List (Nat × Instr × Nat) := [(1182, .pop, 1), (1183, .aload_n 2, 1), (1184, .aload_n 0, 1), (1185, .iload_n 3, 1), (1186, .iconst 1, 1), (1187, .iadd, 1), (1188, .iaload, 1), (1189, .invokevirtual 145, 3), (1192, .pop, 1), (1193, .goto 3, 3), (1196, .iinc 3 6, 3), (1199, .goto (-1181), 3), (1202, .iconst 1, 1), (1203, .ireturn, 1)]
theorem bL_1182_14 : lL_1182_14.all (dOK cL_law) = true := by decide +kernel
theorem dL_law_1182 : decode cL_law 1182 = .ok (.pop, 1) := dl_at bL_1182_14 0 rfl
theorem dL_law_1183 : decode cL_law 1183 = .ok (.aload_n 2, 1) := dl_at bL_1182_14 1 rfl
theorem dL_law_1184 : decode cL_law 1184 = .ok (.aload_n 0, 1) := dl_at bL_1182_14 2 rfl
theorem dL_law_1185 : decode cL_law 1185 = .ok (.iload_n 3, 1) := dl_at bL_1182_14 3 rfl
theorem dL_law_1186 : decode cL_law 1186 = .ok (.iconst 1, 1) := dl_at bL_1182_14 4 rfl
theorem dL_law_1187 : decode cL_law 1187 = .ok (.iadd, 1) := dl_at bL_1182_14 5 rfl
theorem dL_law_1188 : decode cL_law 1188 = .ok (.iaload, 1) := dl_at bL_1182_14 6 rfl
theorem dL_law_1189 : decode cL_law 1189 = .ok (.invokevirtual 145, 3) := dl_at bL_1182_14 7 rfl
theorem dL_law_1192 : decode cL_law 1192 = .ok (.pop, 1) := dl_at bL_1182_14 8 rfl
theorem dL_law_1193 : decode cL_law 1193 = .ok (.goto 3, 3) := dl_at bL_1182_14 9 rfl
theorem dL_law_1196 : decode cL_law 1196 = .ok (.iinc 3 6, 3) := dl_at bL_1182_14 10 rfl
theorem dL_law_1199 : decode cL_law 1199 = .ok (.goto (-1181), 3) := dl_at bL_1182_14 11 rfl
theorem dL_law_1202 : decode cL_law 1202 = .ok (.iconst 1, 1) := dl_at bL_1182_14 12 rfl
theorem dL_law_1203 : decode cL_law 1203 = .ok (.ireturn, 1) := dl_at bL_1182_14 13 rfl
abbrev vwCl : List vw_C := [(RX0, TX0, 4), (RX1, TX1, 4), (RX2, TX2, 4), (RX3, TX3, 5), (RX4, TX4, 4), (RX5, TX5, 2), (RX6, TX6, 8), (RX7, TX7, 3), (RX8, TX8, 12), (RX9, TX9, 1), (RX10, TX10, 13), (RX11, TX11, 39)]
